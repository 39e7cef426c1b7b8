import java.util.function.Supplier;

/**
 * The edges of a choice: a shortfall that is met exactly, by one too little, and at the edge of the slack; sets that
 * are equal in hours, in what they take, and in both. Each is held for choice, choiceByListing, relieve and rotate.
 */
public final class ChoiceEdgesTest {
    private static final String ELEMENT = "throws.NoSuchElementException";
    private static final Due DUE = new Due("ChoiceEdgesTest");

    public static void main(String[] args) {
        metExactly();
        metByAllExactly();
        edgeOfSlack();
        edgeOfNoSlack();
        edgeOfGreatestSlack();
        edgeOfSlackOfPairs();
        nearHoursBeforeTake();
        farTakeBeforeHours();
        equalInHours();
        equalInTake();
        equalInBoth();
        equalInBothAsNumbers();
        equalInBothOfTwelve();
        sumOfHours();
        noMoreThanNeeded();
        coldCounts();
        onNotCritical();
        DUE.end();
    }

    /** Feeders with these loads and hours, all warm again, and a slack. */
    private static Supplier<Shedwheel> office(int slack, int[] loads, int... hours) {
        return () -> {
            Shedwheel office = Offices.of(loads);
            office.setSlack(slack);
            for (int k = 0; k < hours.length; k++) {
                if (hours[k] > 0) {
                    Offices.giveHours(office, k, hours[k]);
                }
            }
            return office;
        };
    }

    private static int[] loads(int... loads) {
        return loads;
    }

    private static int setOfCut(Shedwheel office, int feeders) {
        int set = 0;
        for (int k = 0; k < feeders; k++) {
            set |= office.isCut(k) ? 1 << k : 0;
        }
        return set;
    }

    private static int taken(Shedwheel office, int set) {
        int sum = 0;
        for (int k = 0; k < office.feeders(); k++) {
            sum += (set >> k & 1) * office.takes(k);
        }
        return sum;
    }

    /** The choice for the shortfall is this set, whoever asks; 0 if all take less. */
    private static void chosen(String what, Supplier<Shedwheel> maker, int shortfall, int want) {
        String text = what + ", for " + shortfall;
        Shedwheel office = maker.get();
        int ahead = setOfCut(office, office.feeders());
        DUE.same("20 choice: " + text, office.choice(shortfall), want);
        DUE.same("21 choiceByListing: " + text, office.choiceByListing(shortfall), want);
        String due = want == 0 ? ELEMENT : "" + taken(office, want);
        DUE.same("7 relieve: " + text, Calls.RELIEVE.answer(office, shortfall, 0, false), due);
        DUE.same("7 relieve cuts: " + text, setOfCut(office, office.feeders()), ahead | want);
        rotated(text, maker.get(), shortfall, want);
    }

    /** One feeder more, cut just now, whose load is the shortfall, is the one that is restored. */
    private static void rotated(String text, Shedwheel office, int shortfall, int want) {
        int ahead = setOfCut(office, office.feeders());
        if (ahead != 0 || shortfall > 999) {
            return;
        }
        int last = office.feeder(shortfall, false, 0);
        office.cut(last);
        DUE.same("8 rotate: " + text, Calls.ROTATE.answer(office, 0, 0, false), want == 0 ? ELEMENT : "1");
        DUE.same("8 rotate cuts: " + text, setOfCut(office, last), want);
        DUE.same("8 rotate restores: " + text, office.isCut(last), want == 0);
    }

    private static void metExactly() {
        Supplier<Shedwheel> maker = office(0, loads(10, 20));
        chosen("by one too much", maker, 9, 1);
        chosen("exactly", maker, 10, 1);
        chosen("10 is one too little", maker, 11, 2);
        chosen("by one too much", maker, 19, 2);
        chosen("exactly", maker, 20, 2);
        chosen("20 is one too little", maker, 21, 3);
        Supplier<Shedwheel> small = office(0, loads(1, 2));
        chosen("the least", small, 1, 1);
        chosen("1 is one too little", small, 2, 2);
        chosen("2 is one too little", small, 3, 3);
    }

    private static void metByAllExactly() {
        Supplier<Shedwheel> maker = office(999, loads(10, 20, 30), 4, 5, 6);
        chosen("all, by one too much", maker, 59, 7);
        chosen("all, exactly", maker, 60, 7);
        chosen("all take one too little", maker, 61, 0);
        Supplier<Shedwheel> one = office(999, loads(999));
        chosen("one alone, exactly", one, 999, 1);
        chosen("one alone takes one too little", one, 1000, 0);
    }

    /** A set is near if it takes at most the shortfall and the slack, together. */
    private static void edgeOfSlack() {
        int[] loads = loads(10, 16);
        chosen("16 is one more than near", office(5, loads, 3), 10, 1);
        chosen("16 is just near", office(6, loads, 3), 10, 2);
        chosen("16 is near by more", office(7, loads, 3), 10, 2);
        chosen("16 is one more than near for 9", office(6, loads, 3), 9, 1);
        chosen("16 is just near for 9", office(7, loads, 3), 9, 2);
    }

    /** Without slack a set is near if it takes just the shortfall. */
    private static void edgeOfNoSlack() {
        Supplier<Shedwheel> maker = office(0, loads(10, 11, 10), 3, 0, 5);
        chosen("10 alone is near", maker, 10, 1);
        chosen("11 alone is near", maker, 11, 2);
        chosen("none is near", maker, 9, 1);
        Supplier<Shedwheel> one = office(1, loads(10, 11, 10), 3, 0, 5);
        chosen("11 is near with a slack of 1", one, 10, 2);
        chosen("11 isn't, with a slack of 1", one, 9, 1);
    }

    private static Supplier<Shedwheel> greatestSlack(int load, int hours) {
        return () -> {
            Shedwheel office = office(999, loads(1, load), 20).get();
            office.cut(1);
            office.pass(hours);
            office.restore(1);
            return office;
        };
    }

    private static void edgeOfGreatestSlack() {
        chosen("1000 is just near", greatestSlack(500, 10), 1, 2);
        chosen("1001 is one more than near", greatestSlack(910, 1), 1, 1);
        chosen("1001 is just near for 2", greatestSlack(910, 1), 2, 2);
        chosen("999 is near", greatestSlack(999, 19), 1, 1);
        chosen("999, warm, is near", office(999, loads(1, 999), 20), 1, 2);
    }

    private static void edgeOfSlackOfPairs() {
        int[] loads = loads(30, 10, 14);
        chosen("24 is just near, 30 not", office(4, loads, 0, 3, 3), 20, 6);
        chosen("24 is one more than near", office(3, loads, 0, 3, 3), 20, 6);
        chosen("24 and 30 are near", office(10, loads, 0, 3, 3), 20, 1);
        chosen("30 is one more than near", office(9, loads, 0, 3, 3), 20, 6);
    }

    /** If there are near sets, the one with the least sum of hours, though others take less. */
    private static void nearHoursBeforeTake() {
        chosen("an hour less, and most taken", office(5, loads(10, 12, 15), 2, 2, 1), 10, 4);
        chosen("an hour less, and least taken", office(5, loads(10, 12, 15), 1, 2, 2), 10, 1);
        chosen("an hour less, between", office(5, loads(10, 12, 15), 2, 1, 2), 10, 2);
        chosen("no hours of all three", office(20, loads(10, 12, 15), 1, 0, 0), 10, 2);
    }

    /** If there are none, the one that takes least, though others have fewer hours. */
    private static void farTakeBeforeHours() {
        chosen("one less taken, most hours", office(1, loads(13, 12, 14), 0, 50, 0), 10, 2);
        chosen("least taken, near alone", office(2, loads(13, 12, 14), 0, 50, 0), 10, 2);
        chosen("fewer hours, as soon as near", office(3, loads(13, 12, 14), 0, 50, 0), 10, 1);
        chosen("pairs: one less taken, most hours", office(0, loads(13, 12, 15, 40), 30, 20, 0, 0), 24, 3);
    }

    /** Equal in hours, not in what they take: the one that takes least, near or not. */
    private static void equalInHours() {
        chosen("near, no hours", office(5, loads(12, 10, 11)), 10, 2);
        chosen("near, equal hours", office(5, loads(12, 10, 11), 4, 4, 4), 10, 2);
        chosen("near, equal hours, the last takes least", office(5, loads(12, 11, 10), 4, 4, 4), 10, 4);
        chosen("far, no hours", office(0, loads(12, 10, 11)), 9, 2);
        chosen("far, equal hours", office(0, loads(12, 10, 11), 4, 4, 4), 9, 2);
        chosen("near, one or a pair of equal hours", office(9, loads(10, 10, 21), 2, 2, 4), 20, 3);
        chosen("near, a pair or one of equal hours", office(9, loads(10, 11, 20), 2, 2, 4), 20, 4);
    }

    /** Equal in what they take, not in hours: the one with the least sum of hours, near or not. */
    private static void equalInTake() {
        chosen("near", office(0, loads(10, 10, 10), 2, 1, 3), 10, 2);
        chosen("near, the last", office(5, loads(10, 10, 10), 2, 3, 1), 10, 4);
        chosen("far", office(0, loads(10, 10, 10), 2, 1, 3), 9, 2);
        chosen("far, the last", office(0, loads(10, 10, 10), 2, 3, 1), 9, 4);
        chosen("near, a pair", office(0, loads(10, 10, 10), 3, 1, 2), 20, 6);
        chosen("far, a pair", office(0, loads(10, 10, 10), 3, 1, 2), 19, 6);
    }

    /** Of several still, the one that is least as a number, near or not. */
    private static void equalInBoth() {
        chosen("near, the first", office(0, loads(10, 10, 10)), 10, 1);
        chosen("far, the first", office(0, loads(10, 10, 10)), 9, 1);
        chosen("near, with equal hours", office(3, loads(10, 10, 10), 5, 5, 5), 10, 1);
        chosen("far, with equal hours", office(0, loads(10, 10, 10), 5, 5, 5), 9, 1);
        chosen("near, the first pair", office(0, loads(10, 10, 10)), 20, 3);
        chosen("far, the first pair", office(0, loads(10, 10, 10)), 19, 3);
        chosen("near, of the last two", office(0, loads(10, 10, 10), 1, 0, 0), 10, 2);
        chosen("far, of the last two", office(0, loads(10, 10, 10), 1, 0, 0), 9, 2);
        chosen("near, of the first and the last", office(0, loads(10, 10, 10), 1, 2, 1), 10, 1);
    }

    /** The highest feeder in which two sets differ tells which is less, not how many they hold nor the lowest. */
    private static void equalInBothAsNumbers() {
        chosen("near, {1, 2} is 6, {0, 3} is 9", office(0, loads(10, 12, 12, 14)), 24, 6);
        chosen("far, {1, 2} is 6, {0, 3} is 9", office(0, loads(10, 12, 12, 14)), 23, 6);
        chosen("near, {0, 1} is 3, {2} is 4", office(0, loads(10, 14, 24)), 24, 3);
        chosen("far, {0, 1} is 3, {2} is 4", office(0, loads(10, 14, 24)), 23, 3);
        chosen("near, {0} is 1, {1, 2} is 6", office(0, loads(24, 10, 14)), 24, 1);
        chosen("near, {0, 1, 2} is 7, {3} is 8", office(0, loads(5, 6, 7, 18)), 18, 7);
        chosen("near, {1, 2, 3} is 14, {0, 4} is 17", office(0, loads(10, 5, 6, 7, 8)), 18, 14);
        chosen("near, with hours, {0, 1} is 3, {2} is 4", office(2, loads(10, 14, 24), 3, 4, 7), 24, 3);
    }

    private static void equalInBothOfTwelve() {
        Shedwheel office = Offices.of(1, 1, 1, 1, 1, 1, 1, 1, 1, 1, 1, 11);
        DUE.same("20 of twelve, {0 .. 10} is 2047, {11} is 2048", office.choice(11), 2047);
        DUE.same("20 of twelve, one of them", office.choice(1), 1);
        DUE.same("20 of twelve, eleven and one", office.choice(12), 2049);
        DUE.same("20 of twelve, all", office.choice(22), 4095);
        DUE.same("20 of twelve, one too little", office.choice(23), 0);
        Offices.giveHours(office, 0, 1);
        DUE.same("20 of twelve, without hours", office.choice(11), 2048);
        DUE.same("20 of twelve, one without hours", office.choice(1), 2);
        Offices.giveHours(office, 11, 1);
        DUE.same("20 of twelve, equal again", office.choice(11), 2047);
        DUE.same("7 of twelve, equal again", office.relieve(11), 11);
        DUE.same("7 of twelve, just these", setOfCut(office, 12), 2047);
    }

    /** The hours of a set are a sum, not the greatest nor the least of its feeders. */
    private static void sumOfHours() {
        chosen("3 and 3 are more than 5", office(0, loads(10, 10, 20), 3, 3, 5), 20, 4);
        chosen("3 and 3 are 6", office(0, loads(10, 10, 20), 3, 3, 6), 20, 3);
        chosen("3 and 3 are less than 7", office(0, loads(10, 10, 20), 3, 3, 7), 20, 3);
        chosen("1 and 6 are more than 6", office(0, loads(10, 10, 20), 1, 6, 6), 20, 4);
        Supplier<Shedwheel> twice = () -> {
            Shedwheel office = office(0, loads(10, 10), 2, 3).get();
            Offices.giveHours(office, 0, 2);
            return office;
        };
        chosen("all hours, not those of the last cut", twice, 10, 2);
    }

    /** A feeder without hours is not added: that takes more. */
    private static void noMoreThanNeeded() {
        chosen("all near, one is enough", office(999, loads(10, 1, 1)), 10, 1);
        chosen("all near, two small ones", office(999, loads(10, 1, 1)), 2, 6);
        chosen("all near, and all equal", office(999, loads(5, 5, 5, 5, 5, 5, 5, 5)), 5, 1);
        chosen("none near, one is enough", office(0, loads(10, 10, 1)), 9, 1);
    }

    /** What a feeder takes counts, with its cold part, not its load. */
    private static void coldCounts() {
        Supplier<Shedwheel> maker = () -> {
            Shedwheel office = Offices.of(10, 18);
            office.cut(0);
            office.pass(10);
            office.restore(0);
            return office;
        };
        chosen("18 is enough", maker, 18, 2);
        chosen("20 is just enough", maker, 20, 1);
        chosen("18 and 20", maker, 38, 3);
        chosen("by one too little", maker, 39, 0);
        Supplier<Shedwheel> later = () -> {
            Shedwheel office = maker.get();
            office.pass(1);
            return office;
        };
        chosen("18 each, the one without hours", later, 18, 2);
        chosen("18 and 18", later, 36, 3);
        chosen("by one too little", later, 37, 0);
    }

    /** Relief is a choice out of all feeders that are on and not critical. */
    private static void onNotCritical() {
        Supplier<Shedwheel> critical = () -> {
            Shedwheel office = Offices.of(10, 20, 30);
            office.setCritical(0, true);
            return office;
        };
        chosen("not the critical one", critical, 10, 2);
        chosen("all but the critical one", critical, 50, 6);
        chosen("the critical one would be needed", critical, 51, 0);
        Supplier<Shedwheel> cut = () -> {
            Shedwheel office = Offices.of(10, 20, 30);
            office.cut(1);
            return office;
        };
        chosen("not the one that is cut", cut, 20, 4);
        chosen("all but the one that is cut", cut, 40, 5);
        chosen("the one that is cut would be needed", cut, 41, 0);
    }
}
