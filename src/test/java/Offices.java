/** Offices that several tests start from. Each call makes one, always the same. */
final class Offices {
    private Offices() {
    }

    /** Feeders with these loads, none critical, of stage 0. */
    static Shedwheel of(int... loads) {
        Shedwheel office = new Shedwheel();
        for (int load : loads) {
            office.feeder(load, false, 0);
        }
        return office;
    }

    /** As many feeders as told, of load 999, none critical, of stage 1. */
    static Shedwheel great(int feeders) {
        Shedwheel office = new Shedwheel();
        for (int k = 0; k < feeders; k++) {
            office.feeder(999, false, 1);
        }
        return office;
    }

    /** Twelve feeders that take 1998 each, 23976 together. */
    static Shedwheel greatAndCold() {
        Shedwheel office = great(12);
        office.trip(1);
        office.pass(10);
        for (int k = 0; k < 12; k++) {
            office.restore(k);
        }
        return office;
    }

    /**
     * Hour 8, slack 7, and one feeder of each kind: 0 on and cold, with 4 hours, takes 60; 1 cut for 5 hours, would
     * come back with 90; 2 critical and on, takes 70; 3 critical and cut for 5 hours; 4 on and warm, with 2 hours,
     * takes 90.
     */
    static Shedwheel mixed() {
        Shedwheel office = new Shedwheel();
        office.setSlack(7);
        office.feeder(50, false, 1);
        office.feeder(60, false, 2);
        office.feeder(70, true, 3);
        office.feeder(80, true, 0);
        office.feeder(90, false, 3);
        office.cut(4);
        office.pass(2);
        office.restore(4);
        office.pass(1);
        office.cut(1);
        office.cut(3);
        office.cut(0);
        office.pass(4);
        office.restore(0);
        office.pass(1);
        return office;
    }

    /** The mixed one with seven feeders more: 12 in all, of which 9 are on and not critical. */
    static Shedwheel mixedAndFull() {
        Shedwheel office = mixed();
        for (int k = 5; k < 12; k++) {
            office.feeder(k, false, k % 4);
        }
        return office;
    }

    /** The mixed one, in which just critical feeders are cut. */
    static Shedwheel mixedCutCritical() {
        Shedwheel office = mixed();
        office.setCritical(1, true);
        return office;
    }

    /** The mixed one, in which feeder 0 with its 60 is all that is on and not critical. */
    static Shedwheel mixedNearlyAllCut() {
        Shedwheel office = mixed();
        office.cut(4);
        return office;
    }

    /** The mixed one, in which no feeder is on and not critical. */
    static Shedwheel mixedNoneOpen() {
        Shedwheel office = mixedNearlyAllCut();
        office.cut(0);
        return office;
    }

    /** Cuts a feeder for some hours and lets it become warm again. */
    static void giveHours(Shedwheel office, int feeder, int hours) {
        office.cut(feeder);
        office.pass(hours);
        office.restore(feeder);
        office.pass(5);
    }
}
