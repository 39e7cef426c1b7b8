import java.util.function.Supplier;

/**
 * Two offices made alike, of which one gets a call more: if the call changes nothing, nothing that is asked or done
 * afterwards tells them apart, not even what no call tells at once: slack, stages, and the hours of a cut.
 */
final class Twins {
    private final Due due;

    Twins(Due due) {
        this.due = due;
    }

    /** The call throws this exception and changes nothing. */
    void refused(String what, Supplier<Shedwheel> maker, String want, Calls call, int a, int b) {
        unchanged(what, maker, want, call, a, b);
    }

    /** The call has this answer and changes nothing. */
    void unchanged(String what, Supplier<Shedwheel> maker, String want, Calls call, int a, int b) {
        Shedwheel called = maker.get();
        String text = what + ": " + call + "(" + a + ", " + b + ")";
        due.same(text, call.answer(called, a, b, true), want);
        due.same(text + " changes nothing", readOut(called), readOut(maker.get()));
    }

    /** All that an office holds, by asking first and then by calls that use it up. */
    private static String readOut(Shedwheel office) {
        StringBuilder text = new StringBuilder(Due.picture(office));
        text.append(" ; slack ").append(office.setSlack(0));
        int feeders = office.feeders();
        for (int k = 0; k < feeders; k++) {
            readFeeder(office, k, text);
        }
        for (int stage = 1; stage <= 3; stage++) {
            text.append(" ; stage ").append(stage).append(' ').append(office.trip(stage));
            for (int k = 0; k < feeders; k++) {
                text.append(office.isCut(k) ? " cut" : " on");
            }
        }
        text.append(" ; one more ").append(Calls.FEEDER.answer(office, 1, 0, false));
        return text.append(" ; ").append(office.pass(1)).toString();
    }

    private static void readFeeder(Shedwheel office, int k, StringBuilder text) {
        text.append(" | ").append(office.setCritical(k, false)).append(' ');
        text.append(Calls.RESTORE.answer(office, k, 0, false)).append(' ').append(office.cold(k));
        // One bit a feeder, so that what a trip takes tells which were cut.
        text.append(' ').append(office.setLoad(k, 1 << k % 9)).append(' ').append(office.hours(k));
    }
}
