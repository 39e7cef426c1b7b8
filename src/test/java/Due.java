import java.util.function.Supplier;

/** Holds answers against what is due, prints those that differ and counts them. */
final class Due {
    private final String test;
    private int held = 0;
    private int wrong = 0;

    Due(String test) {
        this.test = test;
    }

    void same(String call, Object got, Object want) {
        held++;
        if (!want.equals(got)) {
            wrong++;
            System.out.println(test + ": " + call + " answered " + got + ", due is " + want);
        }
    }

    /** The call throws just this exception, and leaves the office as it was. */
    void refused(Shedwheel office, String call, Class<? extends RuntimeException> want, Supplier<Object> run) {
        String before = picture(office);
        same(call, answer(run), "throws." + want.getSimpleName());
        same("all that can be asked after " + call, picture(office), before);
    }

    /** An exception counts as one of the program's only if the program itself throws it, not the library for it. */
    static String answer(Supplier<Object> run) {
        try {
            return String.valueOf(run.get());
        } catch (RuntimeException e) {
            StackTraceElement[] trace = e.getStackTrace();
            boolean own = trace.length > 0 && trace[0].getClassName().startsWith("Shedwheel");
            return (own ? "throws." : "fails with ") + e.getClass().getSimpleName();
        }
    }

    /** What an office can be asked, in one text; few enough calls that a test stays below the 512 of an object. */
    static String picture(Shedwheel office) {
        StringBuilder text = new StringBuilder();
        text.append(office.hour()).append(' ').append(office.load()).append(' ').append(office.spread());
        text.append(' ').append(office.mostCut()).append(' ').append(office.loadRestored());
        int feeders = office.feeders();
        for (int k = 0; k < feeders; k++) {
            text.append(" | ").append(office.isCut(k)).append(' ').append(office.takes(k));
            text.append(' ').append(office.cold(k)).append(' ').append(office.hours(k));
        }
        for (int shortfall = 1; shortfall < 1000; shortfall *= 20) {
            text.append(" ; ").append(office.choice(shortfall));
        }
        return text.toString();
    }

    /** Ends the test: with exit code 1 if an answer was wrong or nothing was held against anything. */
    void end() {
        System.out.println(test + ": " + held + " answers held, " + wrong + " not as due");
        if (wrong != 0 || held == 0) {
            System.exit(1);
        }
    }
}
