import java.util.function.Supplier;

/**
 * Each argument that has a range: the least and the greatest that is allowed are taken; the first on either side that
 * is not, and the farthest ones, are refused, and the refused call changes nothing.
 */
public final class RangesTest {
    private static final String ARGUMENT = "throws.IllegalArgumentException";
    private static final String INDEX = "throws.IndexOutOfBoundsException";
    private static final String ELEMENT = "throws.NoSuchElementException";
    private static final Calls[] OF_A_FEEDER = {Calls.SET_LOAD, Calls.SET_CRITICAL, Calls.RESTORE, Calls.CUT,
        Calls.IS_CUT, Calls.TAKES, Calls.COLD, Calls.HOURS};

    private static final Due DUE = new Due("RangesTest");
    private static final Twins TWINS = new Twins(DUE);

    public static void main(String[] args) {
        feederLoad();
        feederStage();
        setLoadLoad();
        setSlack();
        pass();
        relieveShortfall();
        tripStage();
        choiceShortfall();
        choiceByListingShortfall();
        feederNumbers();
        feederNumbersOfTwelve();
        feederNumbersOfNone();
        DUE.end();
    }

    /** The first value on either side, and some far ones: near 0, and those that wrap round to an allowed one. */
    private static int[] outside(int least, int most) {
        return new int[] {least - 1, most + 1, -1, -most, Integer.MIN_VALUE, Integer.MAX_VALUE, 65536 + most,
            Integer.MIN_VALUE + most};
    }

    private static void same(String what, Shedwheel office, Calls call, int a, int b, String want) {
        DUE.same(what + ": " + call + "(" + a + ", " + b + ")", call.answer(office, a, b, false), want);
    }

    /** Promise 2, load: 1 to 999. */
    private static void feederLoad() {
        for (int load : outside(1, 999)) {
            TWINS.refused("2 load out of range", Offices::mixed, ARGUMENT, Calls.FEEDER, load, 0);
            TWINS.refused("2 load out of range, the first", Shedwheel::new, ARGUMENT, Calls.FEEDER, load, 0);
        }
        Shedwheel office = Offices.mixed();
        same("2 the least load", office, Calls.FEEDER, 1, 0, "5");
        same("2 the greatest load", office, Calls.FEEDER, 999, 0, "6");
        same("2 the least load", office, Calls.TAKES, 5, 0, "1");
        same("2 the greatest load", office, Calls.TAKES, 6, 0, "999");
    }

    /** Promise 2, stage: 0 to 3. */
    private static void feederStage() {
        for (int stage : outside(0, 3)) {
            TWINS.refused("2 stage out of range", Offices::mixed, ARGUMENT, Calls.FEEDER, 10, stage);
        }
        Shedwheel office = new Shedwheel();
        same("2 the greatest stage", office, Calls.FEEDER, 10, 3, "0");
        same("2 the least stage", office, Calls.FEEDER, 20, 0, "1");
        same("2 the greatest stage is not tripped by 2", office, Calls.TRIP, 2, 0, "0");
        same("2 the greatest stage is tripped by 3, the least never", office, Calls.TRIP, 3, 0, "10");
    }

    /** Promise 3, load: 1 to 999, of a feeder that is on, cut or critical. */
    private static void setLoadLoad() {
        for (int load : outside(1, 999)) {
            for (int k = 0; k < 5; k++) {
                TWINS.refused("3 load out of range", Offices::mixed, ARGUMENT, Calls.SET_LOAD, k, load);
            }
        }
        Shedwheel office = Offices.mixed();
        same("3 the least load", office, Calls.SET_LOAD, 4, 1, "90");
        same("3 the least load", office, Calls.TAKES, 4, 0, "1");
        same("3 the greatest load", office, Calls.SET_LOAD, 4, 999, "1");
        same("3 the greatest load", office, Calls.TAKES, 4, 0, "999");
        same("3 the load that it has", office, Calls.SET_LOAD, 4, 999, "999");
    }

    /** Promise 5, slack: 0 to 999. */
    private static void setSlack() {
        for (int slack : outside(0, 999)) {
            TWINS.refused("5 slack out of range", Offices::mixed, ARGUMENT, Calls.SET_SLACK, slack, 0);
        }
        Shedwheel office = Offices.mixed();
        same("5 the least slack", office, Calls.SET_SLACK, 0, 0, "7");
        same("5 the greatest slack", office, Calls.SET_SLACK, 999, 0, "0");
        same("5 the slack that it was", office, Calls.SET_SLACK, 1, 0, "999");
        same("5 the slack is 0 at first", new Shedwheel(), Calls.SET_SLACK, 5, 0, "0");
    }

    /** Promise 6, hours: 1 to 100. */
    private static void pass() {
        for (int hours : outside(1, 100)) {
            TWINS.refused("6 hours out of range", Offices::mixed, ARGUMENT, Calls.PASS, hours, 0);
            TWINS.refused("6 hours out of range, without feeders", Shedwheel::new, ARGUMENT, Calls.PASS, hours, 0);
        }
        Shedwheel office = Offices.mixed();
        same("6 the least hours", office, Calls.PASS, 1, 0, "9");
        same("6 the greatest hours", office, Calls.PASS, 100, 0, "109");
        same("6 of one that is cut, all of them", office, Calls.HOURS, 1, 0, "106");
        same("6 of one that is on, none of them", office, Calls.HOURS, 0, 0, "4");
    }

    /** Promise 7, shortfall: 1 to 20000; a greater one is refused though it could be met. */
    private static void relieveShortfall() {
        for (int shortfall : outside(1, 20000)) {
            TWINS.refused("7 shortfall out of range", Offices::mixed, ARGUMENT, Calls.RELIEVE, shortfall, 0);
            TWINS.refused("7 shortfall out of range, which could be met", Offices::greatAndCold, ARGUMENT,
                    Calls.RELIEVE, shortfall, 0);
        }
        TWINS.refused("7 the greatest shortfall, not met", Offices::mixed, ELEMENT, Calls.RELIEVE, 20000, 0);
        same("7 the greatest shortfall, met", Offices.greatAndCold(), Calls.RELIEVE, 20000, 0, "21978");
        same("7 the least shortfall", Offices.mixed(), Calls.RELIEVE, 1, 0, "60");
        Shedwheel exact = Offices.greatAndCold();
        exact.setLoad(11, 10);
        same("7 the greatest shortfall, met exactly", exact, Calls.RELIEVE, 20000, 0, "20000");
        same("7 it was met by ten great ones and the small one", exact, Calls.TAKES, 10, 0, "1998");
    }

    /** Promise 9, stage: 1 to 3. */
    private static void tripStage() {
        for (int stage : outside(1, 3)) {
            TWINS.refused("9 stage out of range", Offices::mixed, ARGUMENT, Calls.TRIP, stage, 0);
            TWINS.refused("9 stage out of range, without feeders", Shedwheel::new, ARGUMENT, Calls.TRIP, stage, 0);
        }
        same("9 the least stage", Offices.mixed(), Calls.TRIP, 1, 0, "60");
        same("9 the greatest stage", Offices.mixed(), Calls.TRIP, 3, 0, "150");
    }

    /** Promise 20, shortfall: 1 to 20000. */
    private static void choiceShortfall() {
        for (int shortfall : outside(1, 20000)) {
            TWINS.refused("20 shortfall out of range", Offices::mixed, ARGUMENT, Calls.CHOICE, shortfall, 0);
            TWINS.refused("20 shortfall out of range, which could be met", Offices::greatAndCold, ARGUMENT,
                    Calls.CHOICE, shortfall, 0);
        }
        TWINS.unchanged("20 the least shortfall", Offices::mixed, "1", Calls.CHOICE, 1, 0);
        TWINS.unchanged("20 the greatest shortfall, not met", Offices::mixed, "0", Calls.CHOICE, 20000, 0);
        TWINS.unchanged("20 the greatest shortfall, met", Offices::greatAndCold, "2047", Calls.CHOICE, 20000, 0);
    }

    /** Promise 21, shortfall: 1 to 20000. */
    private static void choiceByListingShortfall() {
        for (int shortfall : outside(1, 20000)) {
            TWINS.refused("21 shortfall out of range", Offices::mixed, ARGUMENT, Calls.CHOICE_BY_LISTING, shortfall, 0);
        }
        TWINS.unchanged("21 the least shortfall", Offices::mixed, "1", Calls.CHOICE_BY_LISTING, 1, 0);
        TWINS.unchanged("21 the greatest shortfall", Offices::mixed, "0", Calls.CHOICE_BY_LISTING, 20000, 0);
    }

    private static void holdNoFeeder(String what, Supplier<Shedwheel> maker, int number) {
        for (Calls call : OF_A_FEEDER) {
            TWINS.refused(what, maker, INDEX, call, number, 10);
        }
    }

    /** Promises 3, 4, 10, 11, 14 to 17: the feeders are numbered from 0 on. */
    private static void feederNumbers() {
        for (int number : new int[] {-1, 5, -5, 11, 12, 65536, Integer.MIN_VALUE, Integer.MAX_VALUE}) {
            holdNoFeeder("there is no such feeder", Offices::mixed, number);
        }
        for (int k = 0; k < 5; k += 4) {
            same("3 the first, the last", Offices.mixed(), Calls.SET_LOAD, k, 10, k == 0 ? "50" : "90");
            same("4 the first, the last", Offices.mixed(), Calls.SET_CRITICAL, k, 0, "false");
            same("11 the first, the last", Offices.mixed(), Calls.CUT, k, 0, k == 0 ? "60" : "90");
            same("14 the first, the last", Offices.mixed(), Calls.IS_CUT, k, 0, "false");
            same("15 the first, the last", Offices.mixed(), Calls.TAKES, k, 0, k == 0 ? "60" : "90");
            same("16 the first, the last", Offices.mixed(), Calls.COLD, k, 0, k == 0 ? "20" : "0");
            same("17 the first, the last", Offices.mixed(), Calls.HOURS, k, 0, k == 0 ? "4" : "2");
            same("10 the first, the last", Offices.mixedNoneOpen(), Calls.RESTORE, k, 0, k == 0 ? "50" : "90");
        }
    }

    private static void feederNumbersOfTwelve() {
        holdNoFeeder("there are twelve", Offices::mixedAndFull, 12);
        holdNoFeeder("there are twelve", Offices::mixedAndFull, -1);
        Shedwheel office = Offices.mixedAndFull();
        same("15 the twelfth", office, Calls.TAKES, 11, 0, "11");
        same("11 the twelfth", office, Calls.CUT, 11, 0, "11");
        same("14 the twelfth", office, Calls.IS_CUT, 11, 0, "true");
        office.pass(1);
        same("17 the twelfth", office, Calls.HOURS, 11, 0, "1");
        same("10 the twelfth", office, Calls.RESTORE, 11, 0, "12");
        same("16 the twelfth", office, Calls.COLD, 11, 0, "10");
        same("3 the twelfth", office, Calls.SET_LOAD, 11, 20, "11");
        same("4 the twelfth", office, Calls.SET_CRITICAL, 11, 0, "false");
    }

    private static void feederNumbersOfNone() {
        for (int number : new int[] {0, -1, 1, 12, Integer.MIN_VALUE, Integer.MAX_VALUE}) {
            holdNoFeeder("there is no feeder at all", Shedwheel::new, number);
        }
        Supplier<Shedwheel> one = () -> Offices.of(10);
        holdNoFeeder("there is one alone", one, 1);
        holdNoFeeder("there is one alone", one, -1);
        same("15 of one alone", one.get(), Calls.TAKES, 0, 0, "10");
    }
}
