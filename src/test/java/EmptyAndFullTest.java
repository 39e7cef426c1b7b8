/** What holds with nothing there and with all there: no feeders, twelve, none that may be cut, none that is cut. */
public final class EmptyAndFullTest {
    private static final String STATE = "throws.IllegalStateException";
    private static final String ELEMENT = "throws.NoSuchElementException";

    private static final Due DUE = new Due("EmptyAndFullTest");
    private static final Twins TWINS = new Twins(DUE);

    public static void main(String[] args) {
        newObject();
        noFeedersAsked();
        noFeedersDone();
        askingChangesNothing();
        twelveFeeders();
        twelveCut();
        twelveChosen();
        twelveRotated();
        elevenForOne();
        allCritical();
        allCut();
        restCritical();
        noneCut();
        oneFeeder();
        toldLater();
        hoursBeyondShort();
        eachForItself();
        DUE.end();
    }

    private static void same(String what, Shedwheel office, Calls call, int a, Object want) {
        DUE.same(what + ": " + call + "(" + a + ")", call.answer(office, a, 0, false), want.toString());
    }

    /** Promise 1: no feeders; hour 0. */
    private static void newObject() {
        Shedwheel office = new Shedwheel();
        same("1 hour 0", office, Calls.HOUR, 0, 0);
        same("1 no feeders", office, Calls.FEEDERS, 0, 0);
        same("1 the slack is 0 at first", office, Calls.SET_SLACK, 0, 0);
        same("1 the first number is 0", office, Calls.FEEDER, 10, 0);
        Shedwheel other = new Shedwheel();
        same("1 each object for itself", other, Calls.FEEDERS, 0, 0);
    }

    /** Promises 18 to 23 without feeders. */
    private static void noFeedersAsked() {
        TWINS.unchanged("18 nothing", Shedwheel::new, "0", Calls.LOAD, 0, 0);
        TWINS.unchanged("19 0 without such feeders", Shedwheel::new, "0", Calls.SPREAD, 0, 0);
        TWINS.unchanged("20 all take less", Shedwheel::new, "0", Calls.CHOICE, 1, 0);
        TWINS.unchanged("20 all take less", Shedwheel::new, "0", Calls.CHOICE, 20000, 0);
        TWINS.unchanged("21 all take less", Shedwheel::new, "0", Calls.CHOICE_BY_LISTING, 1, 0);
        TWINS.unchanged("21 all take less", Shedwheel::new, "0", Calls.CHOICE_BY_LISTING, 20000, 0);
        TWINS.unchanged("22 NONE", Shedwheel::new, "-1", Calls.MOST_CUT, 0, 0);
        TWINS.unchanged("23 nothing", Shedwheel::new, "0", Calls.LOAD_RESTORED, 0, 0);
    }

    /** Promises 5 to 9 without feeders. */
    private static void noFeedersDone() {
        TWINS.refused("7 all take less", Shedwheel::new, ELEMENT, Calls.RELIEVE, 1, 0);
        TWINS.refused("7 all take less", Shedwheel::new, ELEMENT, Calls.RELIEVE, 20000, 0);
        TWINS.refused("8 none is cut", Shedwheel::new, STATE, Calls.ROTATE, 0, 0);
        for (int stage = 1; stage <= 3; stage++) {
            TWINS.unchanged("9 none to trip", Shedwheel::new, "0", Calls.TRIP, stage, 0);
        }
        Shedwheel office = new Shedwheel();
        same("6 hours pass all the same", office, Calls.PASS, 100, 100);
        same("12 hours pass all the same", office, Calls.HOUR, 0, 100);
        office.setSlack(999);
        same("20 slack makes nothing near", office, Calls.CHOICE, 1, 0);
    }

    /** Loads, hours and what would be cut are asked, which changes nothing. */
    private static void askingChangesNothing() {
        TWINS.unchanged("12", Offices::mixed, "8", Calls.HOUR, 0, 0);
        TWINS.unchanged("13", Offices::mixed, "5", Calls.FEEDERS, 0, 0);
        TWINS.unchanged("14 on", Offices::mixed, "false", Calls.IS_CUT, 0, 0);
        TWINS.unchanged("14 cut", Offices::mixed, "true", Calls.IS_CUT, 1, 0);
        TWINS.unchanged("15 cold", Offices::mixed, "60", Calls.TAKES, 0, 0);
        TWINS.unchanged("15 cut", Offices::mixed, "0", Calls.TAKES, 1, 0);
        TWINS.unchanged("16 cold", Offices::mixed, "20", Calls.COLD, 0, 0);
        TWINS.unchanged("16 cut", Offices::mixed, "0", Calls.COLD, 3, 0);
        TWINS.unchanged("17 on", Offices::mixed, "4", Calls.HOURS, 0, 0);
        TWINS.unchanged("17 cut", Offices::mixed, "5", Calls.HOURS, 1, 0);
        TWINS.unchanged("18", Offices::mixed, "220", Calls.LOAD, 0, 0);
        TWINS.unchanged("19", Offices::mixed, "3", Calls.SPREAD, 0, 0);
        TWINS.unchanged("20 near", Offices::mixed, "16", Calls.CHOICE, 83, 0);
        TWINS.unchanged("21 near", Offices::mixed, "16", Calls.CHOICE_BY_LISTING, 83, 0);
        TWINS.unchanged("20 none near", Offices::mixed, "17", Calls.CHOICE, 91, 0);
        TWINS.unchanged("21 none near", Offices::mixed, "17", Calls.CHOICE_BY_LISTING, 91, 0);
        TWINS.unchanged("22", Offices::mixed, "0", Calls.MOST_CUT, 0, 0);
        TWINS.unchanged("23", Offices::mixed, "430", Calls.LOAD_RESTORED, 0, 0);
    }

    /** There are at most 12 feeders, numbered from 0 on. */
    private static void twelveFeeders() {
        Shedwheel office = new Shedwheel();
        for (int k = 0; k < 12; k++) {
            same("2 its number", office, Calls.FEEDER, 999, k);
            same("13 how many", office, Calls.FEEDERS, 0, k + 1);
        }
        same("2 not a 13th", office, Calls.FEEDER, 999, STATE);
        same("13 how many", office, Calls.FEEDERS, 0, 12);
        same("18 all of them", office, Calls.LOAD, 0, 11988);
        same("23 all of them", office, Calls.LOAD_RESTORED, 0, 11988);
        same("22 the lowest number", office, Calls.MOST_CUT, 0, 0);
        Offices.giveHours(office, 11, 3);
        same("22 the last one", office, Calls.MOST_CUT, 0, 11);
        same("19 with the last one", office, Calls.SPREAD, 0, 3);
    }

    private static void twelveCut() {
        Shedwheel office = Offices.great(12);
        same("9 all twelve trip", office, Calls.TRIP, 1, 11988);
        same("9 none is left", office, Calls.TRIP, 3, 0);
        same("18 nothing is left", office, Calls.LOAD, 0, 0);
        same("22 none", office, Calls.MOST_CUT, 0, Shedwheel.NONE);
        same("20 all take less", office, Calls.CHOICE, 1, 0);
        same("8 none can take their turn", office, Calls.ROTATE, 0, ELEMENT);
        office.pass(10);
        same("23 all twelve, at their coldest", office, Calls.LOAD_RESTORED, 0, 23976);
        for (int k = 0; k < 12; k++) {
            same("10 at its coldest", office, Calls.RESTORE, k, 1998);
        }
        same("18 all twelve, at their coldest", office, Calls.LOAD, 0, 23976);
        same("9 and what they took", office, Calls.TRIP, 2, 23976);
    }

    private static void twelveChosen() {
        Shedwheel office = Offices.great(12);
        same("20 all twelve", office, Calls.CHOICE, 11988, 4095);
        same("20 by one too little", office, Calls.CHOICE, 11989, 0);
        same("20 all but the last one", office, Calls.CHOICE, 10989, 2047);
        same("20 one more than eleven take", office, Calls.CHOICE, 10990, 4095);
        same("20 the first one", office, Calls.CHOICE, 999, 1);
        same("7 by one too little", office, Calls.RELIEVE, 11989, ELEMENT);
        same("7 all twelve", office, Calls.RELIEVE, 11988, 11988);
        same("7 nothing is left", office, Calls.RELIEVE, 1, ELEMENT);
    }

    /** Six take the turn of six, and back again; each restored feeder is warm, as no hour passed. */
    private static void twelveRotated() {
        Shedwheel office = Offices.great(12);
        same("7 six of them", office, Calls.RELIEVE, 5994, 5994);
        same("8 six are restored", office, Calls.ROTATE, 0, 6);
        for (int k = 0; k < 12; k++) {
            same("8 the other six are cut", office, Calls.IS_CUT, k, k >= 6);
        }
        same("8 six are restored again", office, Calls.ROTATE, 0, 6);
        for (int k = 0; k < 12; k++) {
            same("8 the first six are cut", office, Calls.IS_CUT, k, k < 6);
        }
    }

    private static void elevenForOne() {
        Shedwheel office = Offices.of(1, 1, 1, 1, 1, 1, 1, 1, 1, 1, 1, 11);
        for (int k = 0; k < 11; k++) {
            office.cut(k);
        }
        same("8 eleven are restored", office, Calls.ROTATE, 0, 11);
        same("8 for one", office, Calls.IS_CUT, 11, true);
        same("8 one is restored", office, Calls.ROTATE, 0, 1);
        same("8 for eleven", office, Calls.LOAD, 0, 11);
        office.pass(1);
        office.setLoad(0, 10);
        same("8 11 for 21", office, Calls.ROTATE, 0, ELEMENT);
    }

    /** No feeder on and not critical: all are critical. */
    private static void allCritical() {
        Shedwheel office = new Shedwheel();
        office.feeder(10, true, 1);
        office.feeder(20, true, 2);
        holdNoneOpen("all are critical", office);
        same("19 0 without such feeders", office, Calls.SPREAD, 0, 0);
        same("8 none is cut", office, Calls.ROTATE, 0, STATE);
        same("18 they are kept", office, Calls.LOAD, 0, 30);
        office.cut(0);
        office.pass(3);
        same("19 0 without such feeders, with hours", office, Calls.SPREAD, 0, 0);
        same("8 none is cut that is not critical", office, Calls.ROTATE, 0, STATE);
        same("23 critical ones too", office, Calls.LOAD_RESTORED, 0, 33);
    }

    /** No feeder on and not critical: all are cut. */
    private static void allCut() {
        Shedwheel office = Offices.great(3);
        office.cut(0);
        office.pass(2);
        office.cut(1);
        office.pass(1);
        office.cut(2);
        holdNoneOpen("all are cut", office);
        same("8 none can take their turn", office, Calls.ROTATE, 0, ELEMENT);
        same("19 cut ones count", office, Calls.SPREAD, 0, 3);
    }

    /** No feeder on and not critical: some are cut, the others critical. */
    private static void restCritical() {
        Shedwheel office = Offices.mixedNoneOpen();
        holdNoneOpen("some are cut, the others critical", office);
        same("8 none can take their turn", office, Calls.ROTATE, 0, ELEMENT);
        same("19 cut ones count, critical ones don't", office, Calls.SPREAD, 0, 3);
        same("18 the critical one that is on", office, Calls.LOAD, 0, 70);
        office.setCritical(2, false);
        same("22 one is open then", office, Calls.MOST_CUT, 0, 2);
        same("20 one is open then", office, Calls.CHOICE, 70, 4);
        same("9 one is open then", office, Calls.TRIP, 3, 70);
    }

    private static void holdNoneOpen(String what, Shedwheel office) {
        same("7 " + what, office, Calls.RELIEVE, 1, ELEMENT);
        same("7 " + what, office, Calls.RELIEVE, 20000, ELEMENT);
        same("9 " + what, office, Calls.TRIP, 3, 0);
        same("20 " + what, office, Calls.CHOICE, 1, 0);
        same("20 " + what, office, Calls.CHOICE, 20000, 0);
        same("21 " + what, office, Calls.CHOICE_BY_LISTING, 1, 0);
        same("21 " + what, office, Calls.CHOICE_BY_LISTING, 20000, 0);
        same("22 " + what, office, Calls.MOST_CUT, 0, Shedwheel.NONE);
    }

    /** No feeder cut. */
    private static void noneCut() {
        Shedwheel office = Offices.of(10, 20, 30);
        office.pass(100);
        same("8 none is cut", office, Calls.ROTATE, 0, STATE);
        same("10 none is cut", office, Calls.RESTORE, 0, STATE);
        same("18 none is cut", office, Calls.LOAD, 0, 60);
        same("23 none is cut", office, Calls.LOAD_RESTORED, 0, 60);
        same("19 none was cut", office, Calls.SPREAD, 0, 0);
        same("22 none was cut: the lowest number", office, Calls.MOST_CUT, 0, 0);
        office.setCritical(0, true);
        same("22 and not critical", office, Calls.MOST_CUT, 0, 1);
        same("9 none has a stage", office, Calls.TRIP, 3, 0);
    }

    private static void oneFeeder() {
        Shedwheel office = Offices.of(1);
        same("20 by one too little", office, Calls.CHOICE, 2, 0);
        same("20 met exactly", office, Calls.CHOICE, 1, 1);
        same("22 the one", office, Calls.MOST_CUT, 0, 0);
        same("7 met exactly", office, Calls.RELIEVE, 1, 1);
        same("8 it can't take its own turn", office, Calls.ROTATE, 0, ELEMENT);
        office.pass(7);
        same("19 of one alone", office, Calls.SPREAD, 0, 0);
        same("10 1.7, rounded down", office, Calls.RESTORE, 0, 1);
    }

    /** A feeder told later is on, warm and without hours, whatever happened ahead of it. */
    private static void toldLater() {
        Shedwheel office = Offices.mixed();
        office.feeder(40, false, 0);
        same("14 on at first", office, Calls.IS_CUT, 5, false);
        same("15 just its load", office, Calls.TAKES, 5, 40);
        same("16 warm", office, Calls.COLD, 5, 0);
        same("17 no hours", office, Calls.HOURS, 5, 0);
        same("12 the hour stays", office, Calls.HOUR, 0, 8);
        same("19 it counts at once", office, Calls.SPREAD, 0, 5);
    }

    /** Hours and their sums go far beyond 65535. */
    private static void hoursBeyondShort() {
        Shedwheel office = Offices.of(10, 10, 10, 20);
        office.cut(0);
        office.cut(1);
        office.cut(2);
        for (int round = 0; round < 400; round++) {
            office.pass(100);
        }
        same("12 the hour", office, Calls.HOUR, 0, 40000);
        same("17 all of them", office, Calls.HOURS, 0, 40000);
        same("19 all of them", office, Calls.SPREAD, 0, 40000);
        same("10 at its coldest, no more", office, Calls.RESTORE, 0, 20);
        same("10 at its coldest, no more", office, Calls.RESTORE, 1, 20);
        same("10 at its coldest, no more", office, Calls.RESTORE, 2, 20);
        office.pass(5);
        office.setSlack(10);
        // {0, 1} takes 20 with 80000 hours, {3} 20 with none, {0, 1, 2} 30 with 120000, {0, 3} 30 with 40000.
        same("20 no hours", office, Calls.CHOICE, 20, 8);
        same("20 40000 hours", office, Calls.CHOICE, 25, 9);
        office.setCritical(3, true);
        same("20 80000 hours, not 120000", office, Calls.CHOICE, 20, 3);
    }

    /** Two offices used in turns answer as each would alone, and so does a third one that is made meanwhile. */
    private static void eachForItself() {
        Shedwheel one = Offices.mixed();
        Shedwheel other = Offices.great(9);
        same("7 the other is cut", other, Calls.RELIEVE, 1998, 1998);
        same("20 the one, with its slack", one, Calls.CHOICE, 83, 16);
        same("8 the other turns", other, Calls.ROTATE, 0, 2);
        same("6 the other's hour", other, Calls.PASS, 10, 10);
        same("12 the one's hour", one, Calls.HOUR, 0, 8);
        same("16 the one's cold part", one, Calls.COLD, 0, 20);
        same("5 the other's slack", other, Calls.SET_SLACK, 3, 0);
        Shedwheel third = Offices.of(10);
        same("5 the third one's slack", third, Calls.SET_SLACK, 2, 0);
        same("9 the other's stages", other, Calls.TRIP, 1, 7 * 999);
        same("9 the one's stages", one, Calls.TRIP, 3, 150);
        same("21 the third one's feeder", third, Calls.CHOICE_BY_LISTING, 8, 1);
        same("23 the other, restored", other, Calls.LOAD_RESTORED, 0, 7 * 999 + 2 * 1998);
        same("23 the one, restored", one, Calls.LOAD_RESTORED, 0, 50 + 90 + 70 + 120 + 90);
        same("5 the one's slack", one, Calls.SET_SLACK, 0, 7);
        same("5 the other's slack", other, Calls.SET_SLACK, 0, 3);
    }
}
