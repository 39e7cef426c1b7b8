/**
 * Each exception of each call: a call that throws changes nothing, and where several exceptions apply, the one that
 * the throws clause names first is thrown.
 */
public final class RefusalsTest {
    private static final String ARGUMENT = "throws.IllegalArgumentException";
    private static final String STATE = "throws.IllegalStateException";
    private static final String INDEX = "throws.IndexOutOfBoundsException";
    private static final String ELEMENT = "throws.NoSuchElementException";

    private static final Due DUE = new Due("RefusalsTest");
    private static final Twins TWINS = new Twins(DUE);

    public static void main(String[] args) {
        outOfRange();
        noSuchFeeder();
        twelveFeeders();
        allTakeLess();
        rotateWithoutCut();
        rotateTooMuch();
        restoreOfOneThatIsOn();
        cutOfOneThatIsCut();
        listingOfMoreThan8();
        firstNamedOfFeeder();
        firstNamedOfSetLoad();
        firstNamedOfRelieve();
        firstNamedOfRotate();
        firstNamedOfChoiceByListing();
        againAndAgain();
        DUE.end();
    }

    private static void outOfRange() {
        TWINS.refused("2 load", Offices::mixed, ARGUMENT, Calls.FEEDER, 1000, 1);
        TWINS.refused("2 stage", Offices::mixed, ARGUMENT, Calls.FEEDER, 10, 4);
        TWINS.refused("2 load and stage", Offices::mixed, ARGUMENT, Calls.FEEDER, 0, -1);
        TWINS.refused("3 load", Offices::mixed, ARGUMENT, Calls.SET_LOAD, 0, 0);
        TWINS.refused("5 slack", Offices::mixed, ARGUMENT, Calls.SET_SLACK, 1000, 0);
        TWINS.refused("6 hours", Offices::mixed, ARGUMENT, Calls.PASS, 101, 0);
        TWINS.refused("7 shortfall", Offices::mixed, ARGUMENT, Calls.RELIEVE, 0, 0);
        TWINS.refused("9 stage", Offices::mixed, ARGUMENT, Calls.TRIP, 4, 0);
        TWINS.refused("20 shortfall", Offices::mixed, ARGUMENT, Calls.CHOICE, 0, 0);
        TWINS.refused("21 shortfall", Offices::mixed, ARGUMENT, Calls.CHOICE_BY_LISTING, 0, 0);
    }

    private static void noSuchFeeder() {
        Calls[] calls = {Calls.SET_LOAD, Calls.SET_CRITICAL, Calls.RESTORE, Calls.CUT, Calls.IS_CUT, Calls.TAKES,
            Calls.COLD, Calls.HOURS};
        for (Calls call : calls) {
            TWINS.refused("no such feeder", Offices::mixed, INDEX, call, 5, 33);
            TWINS.refused("no such feeder", Offices::mixed, INDEX, call, -1, 33);
        }
    }

    /** Promise 2: IllegalStateException if there are 12 feeders. */
    private static void twelveFeeders() {
        TWINS.refused("2 there are 12", Offices::mixedAndFull, STATE, Calls.FEEDER, 1, 0);
        TWINS.refused("2 there are 12", Offices::mixedAndFull, STATE, Calls.FEEDER, 999, 3);
        Shedwheel office = Offices.great(11);
        DUE.same("2 there are 11", Calls.FEEDER.answer(office, 1, 0, false), "11");
        DUE.same("2 and then 12", Calls.FEEDER.answer(office, 1, 0, false), STATE);
        DUE.same("2 and still 12", office.feeders(), 12);
    }

    /** Promise 7: NoSuchElementException if all feeders that are on and not critical take less. */
    private static void allTakeLess() {
        TWINS.refused("7 by one less", Offices::mixed, ELEMENT, Calls.RELIEVE, 151, 0);
        TWINS.refused("7 critical and cut ones don't count", Offices::mixed, ELEMENT, Calls.RELIEVE, 220, 0);
        TWINS.refused("7 the slack doesn't lower the shortfall", Offices::mixed, ELEMENT, Calls.RELIEVE, 157, 0);
        TWINS.refused("7 none is on and not critical", Offices::mixedNoneOpen, ELEMENT, Calls.RELIEVE, 1, 0);
        DUE.same("7 just as much", Calls.RELIEVE.answer(Offices.mixed(), 150, 0, false), "150");
    }

    /** Promise 8: IllegalStateException if no feeder is cut that is not critical. */
    private static void rotateWithoutCut() {
        TWINS.refused("8 just critical ones are cut", Offices::mixedCutCritical, STATE, Calls.ROTATE, 0, 0);
        TWINS.refused("8 none is cut", () -> Offices.of(10, 20, 30), STATE, Calls.ROTATE, 0, 0);
        TWINS.refused("8 there is none", Shedwheel::new, STATE, Calls.ROTATE, 0, 0);
    }

    /** Promise 8: NoSuchElementException if all feeders that are on and not critical take less than the shortfall. */
    private static void rotateTooMuch() {
        TWINS.refused("8 60 for 180", Offices::mixedNearlyAllCut, ELEMENT, Calls.ROTATE, 0, 0);
        TWINS.refused("8 nothing for 230", Offices::mixedNoneOpen, ELEMENT, Calls.ROTATE, 0, 0);
        DUE.same("8 90 for 90", Calls.ROTATE.answer(Offices.mixed(), 0, 0, false), "1");
    }

    /** Promise 10: IllegalStateException if it is not cut. */
    private static void restoreOfOneThatIsOn() {
        TWINS.refused("10 on and cold", Offices::mixed, STATE, Calls.RESTORE, 0, 0);
        TWINS.refused("10 on and critical", Offices::mixed, STATE, Calls.RESTORE, 2, 0);
        TWINS.refused("10 on and warm", Offices::mixed, STATE, Calls.RESTORE, 4, 0);
    }

    /** Promise 11: IllegalStateException if it is cut; its cut goes on. */
    private static void cutOfOneThatIsCut() {
        TWINS.refused("11 cut", Offices::mixed, STATE, Calls.CUT, 1, 0);
        TWINS.refused("11 cut and critical", Offices::mixed, STATE, Calls.CUT, 3, 0);
        TWINS.refused("11 cut just now", Offices::mixedNoneOpen, STATE, Calls.CUT, 0, 0);
    }

    /** Promise 21: IllegalStateException if more than 8 feeders are on and not critical, whatever the shortfall. */
    private static void listingOfMoreThan8() {
        TWINS.refused("21 nine, met", Offices::mixedAndFull, STATE, Calls.CHOICE_BY_LISTING, 1, 0);
        TWINS.refused("21 nine, all take less", Offices::mixedAndFull, STATE, Calls.CHOICE_BY_LISTING, 20000, 0);
        TWINS.refused("21 twelve", Offices::greatAndCold, STATE, Calls.CHOICE_BY_LISTING, 20000, 0);
        Shedwheel office = Offices.mixedAndFull();
        office.cut(4);
        DUE.same("21 eight", Calls.CHOICE_BY_LISTING.answer(office, 1, 0, false), "32");
        office.setCritical(3, false);
        office.setCritical(2, false);
        DUE.same("21 nine, of which one was critical", Calls.CHOICE_BY_LISTING.answer(office, 1, 0, false), STATE);
    }

    /** Promise 2: a number out of range and 12 feeders. */
    private static void firstNamedOfFeeder() {
        TWINS.refused("2 load 0 and 12", Offices::mixedAndFull, ARGUMENT, Calls.FEEDER, 0, 0);
        TWINS.refused("2 load 1000 and 12", Offices::mixedAndFull, ARGUMENT, Calls.FEEDER, 1000, 0);
        TWINS.refused("2 stage -1 and 12", Offices::mixedAndFull, ARGUMENT, Calls.FEEDER, 1, -1);
        TWINS.refused("2 stage 4 and 12", Offices::mixedAndFull, ARGUMENT, Calls.FEEDER, 1, 4);
    }

    /** Promise 3: no such feeder and a load out of range. */
    private static void firstNamedOfSetLoad() {
        TWINS.refused("3 feeder 5 and load 0", Offices::mixed, INDEX, Calls.SET_LOAD, 5, 0);
        TWINS.refused("3 feeder -1 and load 1000", Offices::mixed, INDEX, Calls.SET_LOAD, -1, 1000);
        TWINS.refused("3 feeder 0 of none and load 0", Shedwheel::new, INDEX, Calls.SET_LOAD, 0, 0);
    }

    /** Promise 7: a shortfall out of range, and all take less. */
    private static void firstNamedOfRelieve() {
        TWINS.refused("7 20001, and all take less", Offices::mixed, ARGUMENT, Calls.RELIEVE, 20001, 0);
        TWINS.refused("7 20001, and none is open", Offices::mixedNoneOpen, ARGUMENT, Calls.RELIEVE, 20001, 0);
        TWINS.refused("7 20001, and there is none", Shedwheel::new, ARGUMENT, Calls.RELIEVE, 20001, 0);
        TWINS.refused("7 0, and there is none", Shedwheel::new, ARGUMENT, Calls.RELIEVE, 0, 0);
    }

    /** Promise 8: no feeder is cut that is not critical, and none is on that could be cut either. */
    private static void firstNamedOfRotate() {
        TWINS.refused("8 nothing to restore, nothing to cut", RefusalsTest::allCritical, STATE, Calls.ROTATE, 0, 0);
    }

    private static Shedwheel allCritical() {
        Shedwheel office = Offices.mixed();
        for (int k = 0; k < 5; k++) {
            office.setCritical(k, true);
        }
        return office;
    }

    /** Promise 21: a shortfall out of range, and more than 8 feeders. */
    private static void firstNamedOfChoiceByListing() {
        TWINS.refused("21 0, and nine", Offices::mixedAndFull, ARGUMENT, Calls.CHOICE_BY_LISTING, 0, 0);
        TWINS.refused("21 20001, and nine", Offices::mixedAndFull, ARGUMENT, Calls.CHOICE_BY_LISTING, 20001, 0);
        TWINS.refused("21 -1, and twelve", Offices::greatAndCold, ARGUMENT, Calls.CHOICE_BY_LISTING, -1, 0);
    }

    /** Refused calls in a row add up to nothing. */
    private static void againAndAgain() {
        Shedwheel office = Offices.mixed();
        for (int round = 0; round < 20; round++) {
            DUE.same("8 too much", Calls.CUT.answer(office, 1, 0, false), STATE);
            DUE.same("6 no hours", Calls.PASS.answer(office, 0, 0, false), ARGUMENT);
            DUE.same("7 too much", Calls.RELIEVE.answer(office, 151, 0, false), ELEMENT);
            DUE.same("2 no load", Calls.FEEDER.answer(office, 0, 0, false), ARGUMENT);
            DUE.same("10 it is on", Calls.RESTORE.answer(office, 4, 0, false), STATE);
        }
        DUE.same("12 the hour", office.hour(), 8);
        DUE.same("13 the feeders", office.feeders(), 5);
        DUE.same("18 the load", office.load(), 220);
        DUE.same("23 restored", office.loadRestored(), 220 + 90 + 120);
        DUE.same("19 the spread", office.spread(), 3);
    }
}
