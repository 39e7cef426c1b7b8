/** The edges of rotating and of tripping: what is met exactly or by one too little, what counts, what is restored. */
public final class TurnsTest {
    private static final String ELEMENT = "throws.NoSuchElementException";
    private static final Due DUE = new Due("TurnsTest");

    public static void main(String[] args) {
        shortfallExactly();
        shortfallWithSurplus();
        shortfallAtTheMost();
        shortfallOfTheSum();
        shortfallWithoutCritical();
        shortfallBeyond20000();
        edgeOfSlack();
        coldOnesMeetIt();
        restoredOnesAreCold();
        restoredOnesAreNotChosen();
        howManyAreRestored();
        turnsKeepHoursEven();
        tripUpToStage();
        tripOfFirstAndLast();
        tripKeeps();
        DUE.end();
    }

    private static String rotate(Shedwheel office) {
        return Calls.ROTATE.answer(office, 0, 0, false);
    }

    /** Feeder 0 was cut for these hours, feeder 1 is all that could take its turn. */
    private static Shedwheel pair(int loadCut, int hours, int loadOn) {
        Shedwheel office = Offices.of(loadCut, loadOn);
        office.cut(0);
        if (hours > 0) {
            office.pass(hours);
        }
        return office;
    }

    private static void shortfallExactly() {
        DUE.same("8 20 for 20", rotate(pair(20, 0, 20)), "1");
        DUE.same("8 19 for 20", rotate(pair(20, 0, 19)), ELEMENT);
        DUE.same("8 21 for 20", rotate(pair(20, 0, 21)), "1");
        DUE.same("8 1 for 1", rotate(pair(1, 0, 1)), "1");
        DUE.same("8 1 for 2", rotate(pair(2, 0, 1)), ELEMENT);
        DUE.same("8 999 for 999", rotate(pair(999, 0, 999)), "1");
        DUE.same("8 998 for 999", rotate(pair(999, 0, 998)), ELEMENT);
    }

    /** What each would take more than its load if it was restored now is part of it. */
    private static void shortfallWithSurplus() {
        DUE.same("8 26 for 20 and 6", rotate(pair(20, 3, 26)), "1");
        DUE.same("8 25 for 20 and 6", rotate(pair(20, 3, 25)), ELEMENT);
        DUE.same("8 16 for 15 and 1.5", rotate(pair(15, 1, 16)), "1");
        DUE.same("8 15 for 15 and 1.5", rotate(pair(15, 1, 15)), ELEMENT);
        DUE.same("8 1 for 1 and 0.9", rotate(pair(1, 9, 1)), "1");
        DUE.same("8 1 for 1 and 1", rotate(pair(1, 10, 1)), ELEMENT);
    }

    private static void shortfallAtTheMost() {
        DUE.same("8 38 after 9 hours", rotate(pair(20, 9, 38)), "1");
        DUE.same("8 37 after 9 hours", rotate(pair(20, 9, 37)), ELEMENT);
        DUE.same("8 40 after 10 hours", rotate(pair(20, 10, 40)), "1");
        DUE.same("8 39 after 10 hours", rotate(pair(20, 10, 39)), ELEMENT);
        DUE.same("8 40 after 11 hours", rotate(pair(20, 11, 40)), "1");
        DUE.same("8 40 after 100 hours", rotate(pair(20, 100, 40)), "1");
        DUE.same("8 39 after 100 hours", rotate(pair(20, 100, 39)), ELEMENT);
    }

    private static Shedwheel twoCut(int loadOn) {
        Shedwheel office = Offices.of(15, 15, loadOn);
        office.cut(0);
        office.cut(1);
        office.pass(1);
        return office;
    }

    /** It is a sum over all that are cut, each surplus rounded for itself: 16 and 16. */
    private static void shortfallOfTheSum() {
        DUE.same("8 32 for 16 and 16", rotate(twoCut(32)), "2");
        DUE.same("8 31 for 16 and 16", rotate(twoCut(31)), ELEMENT);
        Shedwheel apart = Offices.of(20, 20, 46);
        apart.cut(0);
        apart.pass(2);
        apart.cut(1);
        apart.pass(1);
        apart.setLoad(2, 47);
        DUE.same("8 47 for 26 and 22", rotate(apart), ELEMENT);
        apart.setLoad(2, 48);
        DUE.same("8 48 for 26 and 22", rotate(apart), "2");
        DUE.same("16 30 percent", apart.cold(0), 30);
        DUE.same("16 10 percent", apart.cold(1), 10);
    }

    private static void shortfallWithoutCritical() {
        Shedwheel office = Offices.of(20, 500, 20);
        office.cut(0);
        office.cut(1);
        office.setCritical(1, true);
        DUE.same("8 20 for 20", rotate(office), "1");
        DUE.same("8 the critical one stays cut", office.isCut(1), true);
        DUE.same("8 the other is restored", office.isCut(0), false);
        DUE.same("8 one is cut for it", office.isCut(2), true);
        office.setCritical(1, false);
        DUE.same("8 20 for 20 and 500", rotate(office), ELEMENT);
    }

    /** The range of relieve's shortfall is none of rotate's. */
    private static void shortfallBeyond20000() {
        Shedwheel office = Offices.great(12);
        for (int k = 0; k < 11; k++) {
            office.cut(k);
        }
        office.pass(10);
        DUE.same("8 999 for 21978", rotate(office), ELEMENT);
        DUE.same("8 nothing is changed by it", office.load(), 999);
    }

    /** The slack counts for a turn as it does for relief: 20 up to 24 are near. */
    private static void edgeOfSlack() {
        for (int load = 23; load <= 25; load++) {
            Shedwheel office = Offices.of(20, 20, load);
            Offices.giveHours(office, 1, 1);
            office.setSlack(4);
            office.cut(0);
            DUE.same("8 with slack", rotate(office), "1");
            DUE.same("8 " + load + " is cut if it is near", office.isCut(2), load <= 24);
            DUE.same("8 20 is cut if it isn't", office.isCut(1), load > 24);
        }
    }

    /** What is on counts with its cold part. */
    private static void coldOnesMeetIt() {
        Shedwheel office = Offices.of(30, 20);
        office.cut(1);
        office.pass(5);
        office.restore(1);
        office.cut(0);
        DUE.same("8 30 for 30", rotate(office), "1");
        office = Offices.of(31, 20);
        office.cut(1);
        office.pass(5);
        office.restore(1);
        office.cut(0);
        DUE.same("8 30 for 31", rotate(office), ELEMENT);
    }

    /** Those restored by a turn are as cold as those restored alone; those cut by it begin a new cut. */
    private static void restoredOnesAreCold() {
        Shedwheel office = Offices.of(100, 200);
        office.cut(0);
        office.pass(10);
        DUE.same("8 200 for 200", rotate(office), "1");
        DUE.same("16 restored by a turn", office.cold(0), 100);
        DUE.same("15 restored by a turn", office.takes(0), 200);
        DUE.same("15 cut by a turn", office.takes(1), 0);
        DUE.same("23 cut by a turn just now", office.loadRestored(), 400);
        office.pass(1);
        DUE.same("16 an hour later", office.cold(0), 80);
        DUE.same("17 cut by a turn", office.hours(1), 1);
        DUE.same("17 restored by a turn", office.hours(0), 10);
        DUE.same("23 an hour later", office.loadRestored(), 180 + 220);
        DUE.same("10 cut by a turn", office.restore(1), 220);
    }

    /** The choice is out of those that are on ahead of it, not of those that come back. */
    private static void restoredOnesAreNotChosen() {
        Shedwheel office = Offices.of(10, 50);
        office.cut(0);
        DUE.same("8 a turn", rotate(office), "1");
        DUE.same("8 the one that fits comes back", office.isCut(0), false);
        DUE.same("8 the great one is cut", office.isCut(1), true);
        DUE.same("8 and now 10 for 50", rotate(office), ELEMENT);
        DUE.same("8 nothing is restored", office.isCut(1), true);
        DUE.same("8 nothing is cut", office.isCut(0), false);
    }

    /** The answer counts those restored, not those cut. */
    private static void howManyAreRestored() {
        Shedwheel office = Offices.of(30, 10, 10, 10);
        office.cut(0);
        DUE.same("8 three for one", rotate(office), "1");
        DUE.same("8 three are cut", office.load(), 30);
        DUE.same("8 one for three", rotate(office), "3");
        DUE.same("8 one is cut", office.load(), 30);
        DUE.same("14 the great one", office.isCut(0), true);
    }

    /** With loads of 1, which 10 percent don't make more, the turn goes round, an hour each. */
    private static void turnsKeepHoursEven() {
        Shedwheel office = Offices.of(1, 1, 1, 1);
        DUE.same("7 the first turn", office.relieve(1), 1);
        for (int turn = 0; turn < 12; turn++) {
            office.pass(1);
            DUE.same("14 whose turn it is, " + turn, office.isCut(turn % 4), true);
            DUE.same("18 all the others are on, " + turn, office.load(), 3);
            DUE.same("19 hours stay even, " + turn, office.spread(), turn % 4 == 3 ? 0 : 1);
            DUE.same("8 the next turn, " + turn, rotate(office), "1");
        }
    }

    private static Shedwheel stages() {
        Shedwheel office = new Shedwheel();
        office.feeder(1, false, 1);
        office.feeder(2, false, 0);
        office.feeder(4, false, 2);
        office.feeder(8, false, 3);
        office.feeder(16, true, 1);
        office.feeder(32, true, 3);
        return office;
    }

    /** A trip of a stage cuts all whose stage is 1 up to that stage. */
    private static void tripUpToStage() {
        DUE.same("9 stage 1", stages().trip(1), 1);
        DUE.same("9 stages 1 and 2", stages().trip(2), 5);
        DUE.same("9 stages 1 to 3", stages().trip(3), 13);
        Shedwheel office = stages();
        DUE.same("9 stage 1, then", office.trip(1), 1);
        DUE.same("9 2, then", office.trip(2), 4);
        DUE.same("9 3", office.trip(3), 8);
        DUE.same("18 0 and the critical ones are kept", office.load(), 2 + 16 + 32);
        DUE.same("9 nothing more", office.trip(3), 0);
    }

    private static void tripOfFirstAndLast() {
        Shedwheel office = new Shedwheel();
        for (int k = 0; k < 12; k++) {
            office.feeder(1 + k, false, k == 0 || k == 11 ? 3 : 0);
        }
        DUE.same("9 neither", office.trip(2), 0);
        DUE.same("9 the first and the last", office.trip(3), 1 + 12);
        DUE.same("14 the first", office.isCut(0), true);
        DUE.same("14 the last", office.isCut(11), true);
        DUE.same("14 none between", office.isCut(1) || office.isCut(10), false);
    }

    /** Those cut already keep their cut; the slack and the hours count for nothing. */
    private static void tripKeeps() {
        Shedwheel office = stages();
        office.cut(0);
        office.pass(6);
        office.setSlack(999);
        DUE.same("9 just the one that is on", office.trip(2), 4);
        office.setLoad(0, 100);
        DUE.same("10 its cut went on", office.restore(0), 160);
        DUE.same("9 with its cold part", office.trip(1), 160);
        office.setCritical(4, false);
        DUE.same("9 no longer critical", office.trip(1), 16);
        DUE.same("8 the rest is too little", rotate(office), ELEMENT);
    }
}
