/** The cold part at 0, at 100, and where it stops growing or falling; what is taken, rounded down; hours of a cut. */
public final class ColdEdgesTest {
    private static final Due DUE = new Due("ColdEdgesTest");

    public static void main(String[] args) {
        growth();
        growthHourByHour();
        fall();
        fallAtOnce();
        zero();
        zeroWhileCut();
        justThisCut();
        howEverItWasCut();
        criticalToo();
        changedWhileCut();
        roundedDown();
        roundedEachForItself();
        restoredNow();
        hoursOfAllCuts();
        DUE.end();
    }

    /** One feeder of this load, restored after these hours of a cut. */
    private static Shedwheel restoredAfter(int load, int hours) {
        Shedwheel office = Offices.of(load);
        office.cut(0);
        if (hours > 0) {
            office.pass(hours);
        }
        office.restore(0);
        return office;
    }

    /** 10 percent for each hour of this cut, but at most 100. */
    private static void growth() {
        for (int hours = 0; hours <= 100; hours++) {
            Shedwheel office = restoredAfter(200, hours);
            int want = hours < 10 ? 10 * hours : 100;
            DUE.same("16 after " + hours + " hours", office.cold(0), want);
            DUE.same("15 after " + hours + " hours", office.takes(0), 200 + 2 * want);
        }
        DUE.same("16 one hour ahead of the most", restoredAfter(1, 9).cold(0), 90);
        DUE.same("16 just the most", restoredAfter(1, 10).cold(0), 100);
        DUE.same("16 one hour beyond", restoredAfter(1, 11).cold(0), 100);
    }

    private static void growthHourByHour() {
        Shedwheel office = Offices.of(100);
        office.cut(0);
        for (int hours = 1; hours <= 30; hours++) {
            office.pass(1);
            DUE.same("23 hour by hour, " + hours, office.loadRestored(), hours < 10 ? 100 + 10 * hours : 200);
        }
        DUE.same("10 hour by hour", office.restore(0), 200);
    }

    /** 20 less with each hour that passes while the feeder is on, down to 0. */
    private static void fall() {
        for (int hours = 0; hours <= 10; hours++) {
            Shedwheel office = restoredAfter(100, hours);
            int want = 10 * hours;
            for (int later = 1; later <= 7; later++) {
                office.pass(1);
                want = want < 20 ? 0 : want - 20;
                DUE.same("16 after " + hours + " hours, " + later + " later", office.cold(0), want);
                DUE.same("15 after " + hours + " hours, " + later + " later", office.takes(0), 100 + want);
            }
        }
    }

    private static void fallAtOnce() {
        int[] left = {100, 80, 60, 40, 20, 0, 0, 0};
        for (int later = 1; later < left.length; later++) {
            Shedwheel office = restoredAfter(100, 10);
            office.pass(later);
            DUE.same("16 " + later + " hours at once", office.cold(0), left[later]);
        }
        Shedwheel odd = restoredAfter(100, 9);
        odd.pass(4);
        DUE.same("16 10 are left", odd.cold(0), 10);
        odd.pass(1);
        DUE.same("16 not below 0", odd.cold(0), 0);
        Shedwheel far = restoredAfter(100, 10);
        far.pass(100);
        DUE.same("16 0 long after", far.cold(0), 0);
        DUE.same("15 its load long after", far.takes(0), 100);
        far.cut(0);
        far.pass(1);
        far.restore(0);
        DUE.same("16 from 0 on", far.cold(0), 10);
    }

    /** At 0: never cut, cut for no hour, warm again. */
    private static void zero() {
        Shedwheel office = Offices.of(100);
        DUE.same("16 never cut", office.cold(0), 0);
        office.pass(10);
        DUE.same("16 never cut, and hours pass", office.cold(0), 0);
        DUE.same("15 never cut, and hours pass", office.takes(0), 100);
        office.cut(0);
        DUE.same("10 cut for no hour", office.restore(0), 100);
        DUE.same("16 cut for no hour", office.cold(0), 0);
        office.pass(1);
        DUE.same("16 stays at 0", office.cold(0), 0);
        DUE.same("17 cut for no hour", office.hours(0), 0);
    }

    /** It is 0 while the feeder is cut. */
    private static void zeroWhileCut() {
        Shedwheel office = restoredAfter(100, 10);
        DUE.same("11 what it took", office.cut(0), 200);
        DUE.same("16 0 while it is cut", office.cold(0), 0);
        DUE.same("15 0 while it is cut", office.takes(0), 0);
        DUE.same("18 0 while it is cut", office.load(), 0);
        office.pass(20);
        DUE.same("16 0 while it is cut for long", office.cold(0), 0);
        DUE.same("15 0 while it is cut for long", office.takes(0), 0);
    }

    /** It counts the hours of this cut alone, and nothing of what was left of the last one. */
    private static void justThisCut() {
        Shedwheel office = restoredAfter(100, 10);
        office.cut(0);
        DUE.same("23 cut again while cold", office.loadRestored(), 100);
        DUE.same("10 cut again while cold, for no hour", office.restore(0), 100);
        office = restoredAfter(100, 8);
        office.pass(1);
        office.cut(0);
        office.pass(3);
        DUE.same("10 cut again while cold, for 3 hours", office.restore(0), 130);
        DUE.same("16 cut again while cold, for 3 hours", office.cold(0), 30);
        DUE.same("17 of both cuts", office.hours(0), 11);
    }

    /** This cut begins when the feeder is cut: by relief, by a turn, by a trip or alone. */
    private static void howEverItWasCut() {
        Shedwheel office = new Shedwheel();
        office.feeder(100, false, 1);
        office.feeder(900, false, 0);
        Offices.giveHours(office, 1, 100);
        office.cut(0);
        office.pass(6);
        office.restore(0);
        DUE.same("7 what it took", office.relieve(160), 160);
        office.pass(1);
        DUE.same("10 after relief", office.restore(0), 110);
        DUE.same("9 what it took", office.trip(1), 110);
        office.pass(2);
        DUE.same("10 after a trip", office.restore(0), 120);
        DUE.same("11 what it took", office.cut(0), 120);
        office.pass(3);
        DUE.same("10 after a cut", office.restore(0), 130);
        office.feeder(130, false, 0);
        office.cut(2);
        DUE.same("8 a turn", office.rotate(), 1);
        DUE.same("14 a turn", office.isCut(0), true);
        office.pass(4);
        DUE.same("10 after a turn", office.restore(0), 140);
        DUE.same("17 of all cuts", office.hours(0), 6 + 1 + 2 + 3 + 4);
    }

    private static void criticalToo() {
        Shedwheel office = new Shedwheel();
        office.feeder(100, true, 0);
        office.cut(0);
        office.pass(12);
        DUE.same("10 a critical one", office.restore(0), 200);
        DUE.same("17 a critical one", office.hours(0), 12);
        office.pass(2);
        DUE.same("16 a critical one", office.cold(0), 60);
        office.setCritical(0, false);
        DUE.same("16 no longer critical", office.cold(0), 60);
    }

    /** A load that is set, or a feeder made critical, leaves the cut and the cold part as they are. */
    private static void changedWhileCut() {
        Shedwheel office = Offices.of(100);
        office.cut(0);
        office.pass(5);
        office.setLoad(0, 300);
        office.setCritical(0, true);
        DUE.same("23 the new load", office.loadRestored(), 450);
        office.pass(1);
        DUE.same("10 the new load", office.restore(0), 480);
        office.setLoad(0, 10);
        DUE.same("16 the cold part stays", office.cold(0), 60);
        DUE.same("15 the new load, cold", office.takes(0), 16);
        office.setCritical(0, false);
        DUE.same("15 not critical, cold", office.takes(0), 16);
    }

    /** Its load times 100 and the cold part, together, divided by 100, rounded down. */
    private static void roundedDown() {
        DUE.same("15 1.9", restoredAfter(1, 9).takes(0), 1);
        DUE.same("15 2.0", restoredAfter(1, 10).takes(0), 2);
        DUE.same("15 9.9", restoredAfter(9, 1).takes(0), 9);
        DUE.same("15 11.0", restoredAfter(10, 1).takes(0), 11);
        DUE.same("15 12.1", restoredAfter(11, 1).takes(0), 12);
        DUE.same("15 16.5", restoredAfter(15, 1).takes(0), 16);
        DUE.same("15 20.9", restoredAfter(19, 1).takes(0), 20);
        DUE.same("15 1098.9", restoredAfter(999, 1).takes(0), 1098);
        DUE.same("15 1898.1", restoredAfter(999, 9).takes(0), 1898);
        DUE.same("15 1998.0", restoredAfter(999, 10).takes(0), 1998);
        DUE.same("10 16.5", Calls.RESTORE.answer(cutFor(15, 1), 0, 0, false), "16");
        DUE.same("11 16.5", restoredAfter(15, 1).cut(0), 16);
        DUE.same("7 16.5", restoredAfter(15, 1).relieve(16), 16);
        DUE.same("23 16.5", cutFor(15, 1).loadRestored(), 16);
    }

    private static Shedwheel cutFor(int load, int hours) {
        Shedwheel office = Offices.of(load);
        office.cut(0);
        office.pass(hours);
        return office;
    }

    /** Two times 16.5 are 32 and not 33, in each sum. */
    private static void roundedEachForItself() {
        Shedwheel office = new Shedwheel();
        office.feeder(15, false, 1);
        office.feeder(15, false, 1);
        office.cut(0);
        office.cut(1);
        office.pass(1);
        DUE.same("23 of both", office.loadRestored(), 32);
        office.restore(0);
        DUE.same("23 of one restored and one cut", office.loadRestored(), 32);
        office.restore(1);
        DUE.same("18 of both", office.load(), 32);
        DUE.same("20 both are just enough", office.choice(32), 3);
        DUE.same("20 both are one too little", office.choice(33), 0);
        DUE.same("9 of both", office.trip(1), 32);
    }

    /** What all feeders would take if all that are cut were restored now: those that are on as they are. */
    private static void restoredNow() {
        Shedwheel office = Offices.mixed();
        DUE.same("23 60, 90, 70, 120 and 90", office.loadRestored(), 430);
        DUE.same("10 the first that is cut", office.restore(1), 90);
        DUE.same("10 the other", office.restore(3), 120);
        DUE.same("18 is what was told", office.load(), 430);
        DUE.same("23 and still is", office.loadRestored(), 430);
        office.pass(100);
        DUE.same("23 all warm", office.loadRestored(), 350);
        Shedwheel full = Offices.great(12);
        full.trip(3);
        full.pass(9);
        DUE.same("23 of twelve, an hour ahead of the most", full.loadRestored(), 12 * 1898);
        full.pass(1);
        DUE.same("23 of twelve, the most", full.loadRestored(), 12 * 1998);
        full.pass(1);
        DUE.same("23 of twelve, no more", full.loadRestored(), 12 * 1998);
    }

    /** Its hours are all hours that passed while it was cut, beyond those that make it colder. */
    private static void hoursOfAllCuts() {
        Shedwheel office = Offices.of(10, 10);
        office.cut(0);
        office.pass(100);
        office.pass(1);
        DUE.same("17 one cut, told in two", office.hours(0), 101);
        office.restore(0);
        office.pass(9);
        office.cut(0);
        office.pass(1);
        DUE.same("17 the next cut adds", office.hours(0), 102);
        office.setCritical(0, true);
        office.pass(1);
        DUE.same("17 a critical one too", office.hours(0), 103);
        office.restore(0);
        DUE.same("17 restoring adds none", office.hours(0), 103);
        office.cut(0);
        DUE.same("17 cutting adds none", office.hours(0), 103);
        DUE.same("17 the other has none", office.hours(1), 0);
    }
}
