import java.util.NoSuchElementException;

/** Each promise by hand: ordinary inputs, the edges that the document names, and wrong inputs. */
public final class PromisesTest {
    private static final Class<IllegalArgumentException> ARGUMENT = IllegalArgumentException.class;
    private static final Class<IllegalStateException> STATE = IllegalStateException.class;
    private static final Class<IndexOutOfBoundsException> INDEX = IndexOutOfBoundsException.class;
    private static final Class<NoSuchElementException> ELEMENT = NoSuchElementException.class;

    private static final Due DUE = new Due("PromisesTest");

    public static void main(String[] args) {
        promise1NewObject();
        promise2Feeder();
        promise3SetLoad();
        promise4SetCritical();
        promise5SetSlack();
        promise6Pass();
        promise7Relieve();
        promise7OutOfAll();
        promise8Rotate();
        promise8Shortfall();
        promise8Refused();
        promise8NearAndBeyond20000();
        promise9Trip();
        promise10Restore();
        promise11Cut();
        promises12And13Counts();
        promise14IsCut();
        promise15Takes();
        promise16Cold();
        promise17Hours();
        promise18Load();
        promise19Spread();
        promise20ChoiceNear();
        promise20ChoiceNoneNear();
        promise20ChoiceEdges();
        promise21ChoiceByListing();
        promise22MostCut();
        promise23LoadRestored();
        promisesAtTheFullLength();
        DUE.end();
    }

    private static void promise1NewObject() {
        Shedwheel office = new Shedwheel();
        DUE.same("1 hour()", office.hour(), 0);
        DUE.same("1 feeders()", office.feeders(), 0);
        DUE.same("1 load()", office.load(), 0);
        DUE.same("1 spread()", office.spread(), 0);
        DUE.same("1 mostCut()", office.mostCut(), Shedwheel.NONE);
        DUE.same("1 loadRestored()", office.loadRestored(), 0);
        DUE.same("1 choice(1)", office.choice(1), 0);
        DUE.same("1 choiceByListing(1)", office.choiceByListing(1), 0);
        DUE.same("1 setSlack(0)", office.setSlack(0), 0);
        DUE.same("1 trip(3)", office.trip(3), 0);
        DUE.same("NONE", Shedwheel.NONE, -1);
    }

    private static void promise2Feeder() {
        Shedwheel office = new Shedwheel();
        DUE.refused(office, "2 feeder(0, ..)", ARGUMENT, () -> office.feeder(0, false, 0));
        DUE.refused(office, "2 feeder(-5, ..)", ARGUMENT, () -> office.feeder(-5, false, 0));
        DUE.refused(office, "2 feeder(1000, ..)", ARGUMENT, () -> office.feeder(1000, false, 0));
        DUE.refused(office, "2 feeder(.., -1)", ARGUMENT, () -> office.feeder(1, false, -1));
        DUE.refused(office, "2 feeder(.., 4)", ARGUMENT, () -> office.feeder(1, false, 4));
        DUE.same("2 the first", office.feeder(1, false, 0), 0);
        DUE.same("2 the second", office.feeder(999, true, 3), 1);
        DUE.same("2 it is on", office.isCut(0), false);
        DUE.same("2 its cold part", office.cold(0), 0);
        DUE.same("2 its hours", office.hours(0), 0);
        DUE.same("2 takes(0)", office.takes(0), 1);
        DUE.same("2 takes(1)", office.takes(1), 999);
        DUE.same("2 it is critical", office.setCritical(1, true), true);
        DUE.same("2 it is not critical", office.setCritical(0, false), false);
        for (int k = 2; k < 12; k++) {
            DUE.same("2 one more", office.feeder(10 * k, false, 1), k);
        }
        DUE.refused(office, "2 the 13th", STATE, () -> office.feeder(1, false, 0));
        DUE.refused(office, "2 the 13th, load 0", ARGUMENT, () -> office.feeder(0, false, 0));
        DUE.refused(office, "2 the 13th, stage 4", ARGUMENT, () -> office.feeder(1, false, 4));
        DUE.same("2 feeders()", office.feeders(), 12);
    }

    private static void promise3SetLoad() {
        Shedwheel office = Offices.of(50, 60);
        DUE.same("3 setLoad(0, 1)", office.setLoad(0, 1), 50);
        DUE.same("3 setLoad(0, 999)", office.setLoad(0, 999), 1);
        DUE.same("3 takes(0)", office.takes(0), 999);
        DUE.same("3 takes(1)", office.takes(1), 60);
        DUE.refused(office, "3 setLoad(2, 5)", INDEX, () -> office.setLoad(2, 5));
        DUE.refused(office, "3 setLoad(-1, 5)", INDEX, () -> office.setLoad(-1, 5));
        DUE.refused(office, "3 setLoad(2, 0)", INDEX, () -> office.setLoad(2, 0));
        DUE.refused(office, "3 setLoad(1, 0)", ARGUMENT, () -> office.setLoad(1, 0));
        DUE.refused(office, "3 setLoad(1, 1000)", ARGUMENT, () -> office.setLoad(1, 1000));
        office.cut(1);
        office.pass(5);
        DUE.same("3 of one that is cut", office.setLoad(1, 40), 60);
        DUE.same("3 it takes nothing", office.takes(1), 0);
        DUE.same("3 restored, with its cold part", office.restore(1), 60);
        DUE.same("3 of one that is cold", office.setLoad(1, 3), 40);
        DUE.same("3 the cold part stays", office.takes(1), 4);
    }

    private static void promise4SetCritical() {
        Shedwheel office = Offices.of(50, 60);
        DUE.same("4 was not", office.setCritical(0, true), false);
        DUE.same("4 was", office.setCritical(0, true), true);
        DUE.same("4 kept from the choice", office.choice(10), 2);
        DUE.same("4 was, and is not", office.setCritical(0, false), true);
        DUE.same("4 back in the choice", office.choice(10), 1);
        office.cut(1);
        DUE.same("4 of one that is cut", office.setCritical(1, true), false);
        DUE.same("4 it stays cut", office.isCut(1), true);
        office.pass(4);
        DUE.same("4 of one that is cut, back", office.setCritical(1, false), true);
        DUE.same("4 it still stays cut", office.isCut(1), true);
        DUE.same("4 its cut went on", office.restore(1), 84);
        DUE.refused(office, "4 setCritical(2, ..)", INDEX, () -> office.setCritical(2, true));
        DUE.refused(office, "4 setCritical(-1, ..)", INDEX, () -> office.setCritical(-1, false));
    }

    private static void promise5SetSlack() {
        Shedwheel office = Offices.of(10, 12);
        Offices.giveHours(office, 0, 1);
        DUE.same("5 without slack", office.choice(9), 1);
        DUE.same("5 setSlack(3)", office.setSlack(3), 0);
        DUE.same("5 with slack", office.choice(9), 2);
        DUE.same("5 setSlack(2)", office.setSlack(2), 3);
        DUE.same("5 with less slack", office.choice(9), 1);
        DUE.same("5 setSlack(999)", office.setSlack(999), 2);
        DUE.refused(office, "5 setSlack(-1)", ARGUMENT, () -> office.setSlack(-1));
        DUE.refused(office, "5 setSlack(1000)", ARGUMENT, () -> office.setSlack(1000));
        DUE.same("5 setSlack(0)", office.setSlack(0), 999);
        DUE.same("5 setSlack(0) again", office.setSlack(0), 0);
    }

    private static void promise6Pass() {
        Shedwheel office = Offices.of(100, 100);
        office.cut(0);
        DUE.same("6 pass(1)", office.pass(1), 1);
        DUE.same("6 pass(100)", office.pass(100), 101);
        DUE.same("6 hour()", office.hour(), 101);
        DUE.same("6 hours(0)", office.hours(0), 101);
        DUE.same("6 hours(1)", office.hours(1), 0);
        DUE.refused(office, "6 pass(0)", ARGUMENT, () -> office.pass(0));
        DUE.refused(office, "6 pass(-1)", ARGUMENT, () -> office.pass(-1));
        DUE.refused(office, "6 pass(101)", ARGUMENT, () -> office.pass(101));
    }

    private static void promise7Relieve() {
        Shedwheel office = Offices.of(50, 30, 20, 90);
        office.setCritical(3, true);
        DUE.refused(office, "7 relieve(0)", ARGUMENT, () -> office.relieve(0));
        DUE.refused(office, "7 relieve(-1)", ARGUMENT, () -> office.relieve(-1));
        DUE.refused(office, "7 relieve(20001)", ARGUMENT, () -> office.relieve(20001));
        DUE.refused(office, "7 relieve(20000)", ELEMENT, () -> office.relieve(20000));
        DUE.refused(office, "7 relieve(101)", ELEMENT, () -> office.relieve(101));
        DUE.same("7 relieve(45)", office.relieve(45), 50);
        DUE.same("7 isCut(0)", office.isCut(0), true);
        DUE.same("7 isCut(1)", office.isCut(1), false);
        DUE.same("7 isCut(2)", office.isCut(2), false);
        DUE.same("7 isCut(3)", office.isCut(3), false);
        DUE.refused(office, "7 relieve(51)", ELEMENT, () -> office.relieve(51));
        DUE.same("7 relieve(50)", office.relieve(50), 50);
        DUE.same("7 load()", office.load(), 90);
        DUE.refused(office, "7 relieve(1)", ELEMENT, () -> office.relieve(1));
    }

    private static void promise7OutOfAll() {
        Shedwheel office = Offices.of(999, 999, 999, 999, 999, 999, 999, 999, 999, 999, 999, 999);
        office.pass(1);
        DUE.refused(office, "7 of twelve, too much", ELEMENT, () -> office.relieve(11989));
        DUE.same("7 of twelve, three", office.relieve(2998), 3996);
        DUE.same("7 of twelve, the lowest number", office.choice(1), 16);
        DUE.same("7 of twelve, the rest", office.relieve(7992), 7992);
        DUE.same("7 nothing is on", office.load(), 0);
        Shedwheel coldOne = Offices.of(10, 15);
        coldOne.cut(0);
        coldOne.pass(10);
        coldOne.restore(0);
        DUE.same("7 what was cold is cut with what it took", coldOne.relieve(18), 20);
        DUE.same("7 its cold part has ended", coldOne.restore(0), 10);
    }

    private static void promise8Rotate() {
        Shedwheel office = Offices.of(10, 10, 10);
        DUE.same("8 relieve(15)", office.relieve(15), 20);
        office.cut(2);
        office.restore(1);
        office.pass(2);
        // 0 and 2 would come back with 12 each: 24 can't be met by feeder 1.
        DUE.refused(office, "8 too much", ELEMENT, () -> office.rotate());
        office.feeder(9, false, 0);
        office.feeder(8, false, 0);
        // Out of 1, 3 and 4, with 10, 9 and 8, only all three meet 24.
        DUE.same("8 rotate()", office.rotate(), 2);
        DUE.same("8 isCut(0)", office.isCut(0), false);
        DUE.same("8 isCut(1)", office.isCut(1), true);
        DUE.same("8 isCut(2)", office.isCut(2), false);
        DUE.same("8 isCut(3)", office.isCut(3), true);
        DUE.same("8 isCut(4)", office.isCut(4), true);
        DUE.same("8 cold(0)", office.cold(0), 20);
        DUE.same("8 load()", office.load(), 24);
        office.pass(1);
        DUE.same("8 cold(0) an hour later", office.cold(0), 0);
        DUE.same("8 hours(1)", office.hours(1), 1);
    }

    private static void promise8Shortfall() {
        Shedwheel office = Offices.of(15, 15, 16, 17);
        office.cut(0);
        office.pass(1);
        // Feeder 0 would come back with 16: 16.5, rounded down.
        DUE.same("8 rotate() for 16", office.rotate(), 1);
        DUE.same("8 15 is not enough", office.isCut(1), false);
        DUE.same("8 16 is", office.isCut(2), true);
        DUE.same("8 more than 16 is not wanted", office.isCut(3), false);
        office.pass(1);
        // Feeder 2 would come back with 17: 17.6, rounded down.
        DUE.same("8 rotate() for 17", office.rotate(), 1);
        DUE.same("8 17 is cut for it", office.isCut(3), true);
        DUE.same("8 with nothing else", office.load(), 15 + 15 + 17);
    }

    private static void promise8Refused() {
        Shedwheel office = Offices.of(10, 20);
        DUE.refused(office, "8 none is cut", STATE, () -> office.rotate());
        office.cut(0);
        office.setCritical(0, true);
        DUE.refused(office, "8 only a critical one is cut", STATE, () -> office.rotate());
        office.cut(1);
        DUE.refused(office, "8 none is on", ELEMENT, () -> office.rotate());
        office.setCritical(0, false);
        office.setCritical(1, true);
        DUE.refused(office, "8 none but cut ones is not critical", ELEMENT, () -> office.rotate());
        office.feeder(10, false, 0);
        DUE.same("8 a critical one stays cut", office.rotate(), 1);
        DUE.same("8 it stays cut", office.isCut(1), true);
        DUE.same("8 the other is restored", office.isCut(0), false);
        DUE.same("8 for this one", office.isCut(2), true);
    }

    private static void promise8NearAndBeyond20000() {
        Shedwheel office = Offices.of(10, 11, 14);
        Offices.giveHours(office, 1, 1);
        office.cut(0);
        office.setSlack(4);
        DUE.same("8 rotate() with slack", office.rotate(), 1);
        DUE.same("8 the near one with least hours", office.isCut(2), true);
        Shedwheel big = Offices.of(999, 999, 999, 999, 999, 999, 999, 999, 999, 999, 999);
        big.trip(3);
        for (int k = 0; k < 11; k++) {
            big.cut(k);
        }
        big.pass(10);
        big.feeder(999, false, 0);
        DUE.refused(big, "8 a shortfall of 21978", ELEMENT, () -> big.rotate());
    }

    private static void promise9Trip() {
        Shedwheel office = new Shedwheel();
        office.feeder(10, false, 0);
        office.feeder(20, false, 1);
        office.feeder(40, false, 2);
        office.feeder(80, false, 3);
        office.feeder(160, true, 1);
        DUE.refused(office, "9 trip(0)", ARGUMENT, () -> office.trip(0));
        DUE.refused(office, "9 trip(-1)", ARGUMENT, () -> office.trip(-1));
        DUE.refused(office, "9 trip(4)", ARGUMENT, () -> office.trip(4));
        DUE.same("9 trip(2)", office.trip(2), 60);
        DUE.same("9 isCut(0)", office.isCut(0), false);
        DUE.same("9 isCut(1)", office.isCut(1), true);
        DUE.same("9 isCut(2)", office.isCut(2), true);
        DUE.same("9 isCut(3)", office.isCut(3), false);
        DUE.same("9 isCut(4)", office.isCut(4), false);
        DUE.same("9 trip(1), of those cut none again", office.trip(1), 0);
        office.pass(5);
        office.restore(1);
        DUE.same("9 trip(1), of a cold one", office.trip(1), 30);
        DUE.same("9 a new cut begins", office.restore(1), 20);
        office.cut(1);
        DUE.same("9 trip(3)", office.trip(3), 80);
        DUE.same("9 load()", office.load(), 170);
        office.setCritical(4, false);
        DUE.same("9 trip(1), no longer critical", office.trip(1), 160);
    }

    private static void promise10Restore() {
        Shedwheel office = Offices.of(15, 20);
        DUE.refused(office, "10 it is on", STATE, () -> office.restore(0));
        DUE.refused(office, "10 restore(2)", INDEX, () -> office.restore(2));
        DUE.refused(office, "10 restore(-1)", INDEX, () -> office.restore(-1));
        office.cut(0);
        DUE.same("10 at once", office.restore(0), 15);
        office.cut(0);
        office.pass(3);
        DUE.same("10 after 3 hours", office.restore(0), 19);
        DUE.same("10 it is on again", office.isCut(0), false);
        DUE.refused(office, "10 it is on, again", STATE, () -> office.restore(0));
        office.cut(1);
        office.setCritical(1, true);
        office.pass(11);
        DUE.same("10 a critical one", office.restore(1), 40);
    }

    private static void promise11Cut() {
        Shedwheel office = Offices.of(15, 20);
        office.setCritical(1, true);
        DUE.refused(office, "11 cut(2)", INDEX, () -> office.cut(2));
        DUE.refused(office, "11 cut(-1)", INDEX, () -> office.cut(-1));
        DUE.same("11 cut(0)", office.cut(0), 15);
        DUE.same("11 cut(1), critical", office.cut(1), 20);
        DUE.refused(office, "11 it is cut", STATE, () -> office.cut(0));
        office.pass(10);
        office.restore(0);
        DUE.same("11 of a cold one", office.cut(0), 30);
    }

    private static void promises12And13Counts() {
        Shedwheel office = new Shedwheel();
        office.pass(7);
        DUE.same("12 hour()", office.hour(), 7);
        office.pass(100);
        DUE.same("12 hour() later", office.hour(), 107);
        for (int k = 1; k <= 12; k++) {
            office.feeder(k, k % 2 == 0, k % 4);
            DUE.same("13 feeders()", office.feeders(), k);
        }
        office.trip(3);
        DUE.same("13 cut ones count too", office.feeders(), 12);
        DUE.same("12 hour() at last", office.hour(), 107);
    }

    private static void promise14IsCut() {
        Shedwheel office = Offices.of(5, 6);
        DUE.refused(office, "14 isCut(2)", INDEX, () -> office.isCut(2));
        DUE.refused(office, "14 isCut(-1)", INDEX, () -> office.isCut(-1));
        DUE.refused(office, "14 isCut(the least)", INDEX, () -> office.isCut(Integer.MIN_VALUE));
        office.cut(1);
        DUE.same("14 isCut(0)", office.isCut(0), false);
        DUE.same("14 isCut(1)", office.isCut(1), true);
        office.restore(1);
        DUE.same("14 isCut(1), restored", office.isCut(1), false);
    }

    private static void promise15Takes() {
        Shedwheel office = Offices.of(999, 7);
        DUE.refused(office, "15 takes(2)", INDEX, () -> office.takes(2));
        DUE.refused(office, "15 takes(-1)", INDEX, () -> office.takes(-1));
        office.cut(0);
        DUE.same("15 of one that is cut", office.takes(0), 0);
        office.pass(7);
        DUE.same("15 7 hours on", office.restore(0), 1698);
        office.pass(1);
        DUE.same("15 999 and 50 percent", office.takes(0), 1498);
        office.pass(1);
        DUE.same("15 999 and 30 percent", office.takes(0), 1298);
        office.pass(1);
        DUE.same("15 999 and 10 percent", office.takes(0), 1098);
        office.pass(1);
        DUE.same("15 999 and none", office.takes(0), 999);
        DUE.same("15 of the other", office.takes(1), 7);
    }

    private static void promise16Cold() {
        Shedwheel office = Offices.of(100);
        DUE.refused(office, "16 cold(1)", INDEX, () -> office.cold(1));
        DUE.refused(office, "16 cold(-1)", INDEX, () -> office.cold(-1));
        int[] gained = {0, 10, 20, 30, 40, 50, 60, 70, 80, 90, 100, 100, 100};
        for (int hours = 1; hours < gained.length; hours++) {
            office.cut(0);
            DUE.same("16 0 while it is cut", office.cold(0), 0);
            office.pass(hours);
            DUE.same("16 0 while it is cut, later", office.cold(0), 0);
            office.restore(0);
            DUE.same("16 after " + hours + " hours", office.cold(0), gained[hours]);
        }
        int[] left = {80, 60, 40, 20, 0, 0};
        for (int part : left) {
            office.pass(1);
            DUE.same("16 an hour later", office.cold(0), part);
        }
        office.cut(0);
        office.pass(5);
        office.restore(0);
        office.pass(2);
        DUE.same("16 50, two hours later", office.cold(0), 10);
        office.pass(1);
        DUE.same("16 not below 0", office.cold(0), 0);
        office.cut(0);
        office.pass(100);
        office.restore(0);
        office.cut(0);
        DUE.same("16 cut while cold", office.cold(0), 0);
        office.restore(0);
        DUE.same("16 only this cut counts", office.cold(0), 0);
        office.cut(0);
        office.pass(100);
        office.restore(0);
        office.pass(100);
        DUE.same("16 long after", office.cold(0), 0);
    }

    private static void promise17Hours() {
        Shedwheel office = Offices.of(5, 6);
        DUE.refused(office, "17 hours(2)", INDEX, () -> office.hours(2));
        DUE.refused(office, "17 hours(-1)", INDEX, () -> office.hours(-1));
        office.pass(4);
        DUE.same("17 on", office.hours(0), 0);
        office.cut(0);
        office.pass(3);
        DUE.same("17 while it is cut", office.hours(0), 3);
        office.restore(0);
        office.pass(50);
        DUE.same("17 on again", office.hours(0), 3);
        office.setCritical(0, true);
        office.cut(0);
        office.pass(2);
        DUE.same("17 of all cuts, critical too", office.hours(0), 5);
        DUE.same("17 of the other", office.hours(1), 0);
    }

    private static void promise18Load() {
        Shedwheel office = Offices.of(15, 25, 35);
        office.setCritical(2, true);
        DUE.same("18 all on", office.load(), 75);
        office.cut(0);
        DUE.same("18 one cut", office.load(), 60);
        office.pass(1);
        office.restore(0);
        DUE.same("18 one cold", office.load(), 76);
        office.setLoad(1, 1);
        DUE.same("18 another load", office.load(), 52);
    }

    private static void promise19Spread() {
        Shedwheel office = Offices.of(5, 6);
        DUE.same("19 even", office.spread(), 0);
        office.cut(0);
        office.pass(9);
        DUE.same("19 with one that is cut", office.spread(), 9);
        office.cut(1);
        office.pass(4);
        DUE.same("19 both cut", office.spread(), 9);
        office.feeder(7, true, 0);
        DUE.same("19 a critical one does not count", office.spread(), 9);
        office.setCritical(2, false);
        DUE.same("19 and counts then", office.spread(), 13);
        office.setCritical(0, true);
        DUE.same("19 without the greatest", office.spread(), 4);
        office.setCritical(2, true);
        DUE.same("19 of one alone", office.spread(), 0);
        office.setCritical(1, true);
        DUE.same("19 of none", office.spread(), 0);
    }

    private static void bothChoices(String what, Shedwheel office, int shortfall, int want) {
        String before = Due.picture(office);
        DUE.same("20 choice(" + shortfall + "), " + what, office.choice(shortfall), want);
        DUE.same("21 choiceByListing(" + shortfall + "), " + what, office.choiceByListing(shortfall), want);
        DUE.same("20 what is asked changes nothing", Due.picture(office), before);
    }

    private static void promise20ChoiceNear() {
        Shedwheel office = Offices.of(10, 14, 12, 20);
        Offices.giveHours(office, 0, 6);
        Offices.giveHours(office, 1, 3);
        Offices.giveHours(office, 2, 3);
        office.setSlack(4);
        bothChoices("least hours, then least taken", office, 10, 4);
        bothChoices("12 is no longer enough", office, 13, 2);
        bothChoices("more hours and near, not fewer and far", office, 6, 1);
        Offices.giveHours(office, 2, 1);
        bothChoices("14 has fewer hours and is near just so", office, 10, 2);
        office.setSlack(3);
        bothChoices("14 is one too much", office, 10, 4);
        Shedwheel even = Offices.of(6, 6, 6, 12);
        bothChoices("least as a number", even, 12, 3);
        Offices.giveHours(even, 0, 1);
        bothChoices("hours first", even, 12, 6);
        Offices.giveHours(even, 1, 1);
        bothChoices("one alone with fewer hours", even, 12, 8);
    }

    private static void promise20ChoiceNoneNear() {
        Shedwheel office = Offices.of(30, 20, 20, 50);
        Offices.giveHours(office, 1, 2);
        bothChoices("least taken, then least hours", office, 19, 4);
        bothChoices("least taken with more hours", office, 35, 6);
        bothChoices("near with hours", office, 40, 6);
        bothChoices("one or a pair, least hours", office, 45, 5);
        Offices.giveHours(office, 3, 1);
        Offices.giveHours(office, 2, 2);
        bothChoices("fewer hours", office, 45, 8);
        Offices.giveHours(office, 3, 1);
        bothChoices("as many hours, least as a number", office, 45, 3);
    }

    private static void promise20ChoiceEdges() {
        Shedwheel office = Offices.of(5, 9, 14);
        bothChoices("the least shortfall", office, 1, 1);
        bothChoices("all of them", office, 28, 7);
        bothChoices("all take less", office, 29, 0);
        bothChoices("the greatest shortfall", office, 20000, 0);
        DUE.refused(office, "20 choice(0)", ARGUMENT, () -> office.choice(0));
        DUE.refused(office, "20 choice(-1)", ARGUMENT, () -> office.choice(-1));
        DUE.refused(office, "20 choice(20001)", ARGUMENT, () -> office.choice(20001));
        office.setCritical(0, true);
        bothChoices("not the critical one", office, 1, 2);
        office.cut(1);
        bothChoices("not the one that is cut", office, 1, 4);
        office.pass(10);
        office.restore(1);
        bothChoices("with its cold part", office, 18, 2);
        Shedwheel twelve = Offices.of(1, 2, 4, 8, 16, 32, 64, 128, 256, 512, 999, 999);
        DUE.same("20 of twelve, exactly", twelve.choice(731), 731);
        DUE.same("20 of twelve, all", twelve.choice(3021), 4095);
        DUE.same("20 of twelve, too much", twelve.choice(3022), 0);
        DUE.same("20 of twelve, one great and many small", twelve.choice(1998), 2023);
    }

    private static void promise21ChoiceByListing() {
        Shedwheel office = Offices.of(1, 2, 4, 8, 16, 32, 64, 128);
        DUE.same("21 of eight", office.choiceByListing(77), 77);
        DUE.refused(office, "21 choiceByListing(0)", ARGUMENT, () -> office.choiceByListing(0));
        DUE.refused(office, "21 choiceByListing(20001)", ARGUMENT, () -> office.choiceByListing(20001));
        office.feeder(256, false, 0);
        DUE.refused(office, "21 of nine", STATE, () -> office.choiceByListing(77));
        DUE.refused(office, "21 of nine, and 0", ARGUMENT, () -> office.choiceByListing(0));
        DUE.refused(office, "21 of nine, and all take less", STATE, () -> office.choiceByListing(20000));
        office.cut(0);
        DUE.same("21 of nine, one of them cut", office.choiceByListing(77), 78);
        office.feeder(512, true, 0);
        DUE.same("21 a critical one more", office.choiceByListing(256), 256);
        DUE.same("21 all take less", office.choiceByListing(511), 0);
        office.restore(0);
        office.setCritical(8, true);
        DUE.same("21 of nine, one of them critical", office.choiceByListing(255), 255);
    }

    private static void promise22MostCut() {
        Shedwheel office = Offices.of(5, 6, 7);
        DUE.same("22 all even", office.mostCut(), 0);
        Offices.giveHours(office, 1, 2);
        DUE.same("22 the greatest hours", office.mostCut(), 1);
        Offices.giveHours(office, 2, 2);
        DUE.same("22 of several the lowest number", office.mostCut(), 1);
        office.setCritical(1, true);
        DUE.same("22 not a critical one", office.mostCut(), 2);
        office.cut(2);
        office.pass(50);
        DUE.same("22 not one that is cut", office.mostCut(), 0);
        office.cut(0);
        DUE.same("22 none", office.mostCut(), Shedwheel.NONE);
    }

    private static void promise23LoadRestored() {
        Shedwheel office = Offices.of(15, 25, 35);
        office.setCritical(2, true);
        DUE.same("23 none is cut", office.loadRestored(), 75);
        office.cut(0);
        office.cut(2);
        DUE.same("23 cut just now", office.loadRestored(), 75);
        office.pass(3);
        DUE.same("23 with cold parts, critical too", office.loadRestored(), 19 + 25 + 45);
        office.restore(0);
        DUE.same("23 one is restored", office.loadRestored(), 19 + 25 + 45);
        office.pass(7);
        DUE.same("23 one at its most", office.loadRestored(), 15 + 25 + 70);
        office.pass(7);
        DUE.same("23 not more than that", office.loadRestored(), 15 + 25 + 70);
        DUE.same("23 they stay cut", office.isCut(2), true);
    }

    /** The promises hold for 512 calls: here with as many hours as these can hold. */
    private static void promisesAtTheFullLength() {
        Shedwheel office = Offices.of(1);
        office.cut(0);
        for (int call = 2; call < 508; call++) {
            office.pass(100);
        }
        DUE.same("12 hour() at the end", office.hour(), 50600);
        DUE.same("17 hours(0) at the end", office.hours(0), 50600);
        DUE.same("10 restore(0) at the end", office.restore(0), 2);
    }
}
