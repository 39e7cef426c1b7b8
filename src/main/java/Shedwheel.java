import java.util.ArrayList;
import java.util.NoSuchElementException;

/**
 * A rotating load relief office: feeders are cut in blocks to meet a shortfall, critical ones kept,
 * cut ones taken in turns so that hours stay even; load that comes back is cold and higher for a
 * while, and frequency stages trip feeders by themselves.
 */
public final class Shedwheel {
    /** There is none. */
    public static final int NONE = -1;

    private static final int MOST_FEEDERS = 12;
    private static final int MOST_LOAD = 999;
    private static final int MOST_STAGE = 3;
    private static final int MOST_SLACK = 999;
    private static final int MOST_HOURS = 100;
    private static final int MOST_SHORTFALL = 20000;
    private static final int MOST_LISTED = 8;

    private static final int WHOLE = 100;
    private static final int COLD_GAINED_AN_HOUR = 10;
    private static final int COLD_LOST_AN_HOUR = 20;

    private final ArrayList<Feeder> told = new ArrayList<Feeder>();
    private final Search search = new Search();
    private int now = 0;
    private int slackNow = 0;

    /** No feeders; hour 0. */
    public Shedwheel() {
    }

    // ---- feeders

    /** Tells a feeder; returns its number. */
    public int feeder(int load, boolean critical, int stage)
            throws IllegalArgumentException, IllegalStateException {
        requireWithin(load, 1, MOST_LOAD);
        requireWithin(stage, 0, MOST_STAGE);
        if (told.size() >= MOST_FEEDERS) {
            throw new IllegalStateException("there are 12 feeders");
        }
        told.add(new Feeder(load, critical, stage));
        return told.size() - 1;
    }

    /** Sets the load of a feeder; returns the load that it had. */
    public int setLoad(int feeder, int load) throws IndexOutOfBoundsException, IllegalArgumentException {
        Feeder one = feederOf(feeder);
        requireWithin(load, 1, MOST_LOAD);
        int before = one.megawatts;
        one.megawatts = load;
        return before;
    }

    /** Makes a feeder critical, or not; returns whether it was. */
    public boolean setCritical(int feeder, boolean critical) throws IndexOutOfBoundsException {
        Feeder one = feederOf(feeder);
        boolean before = one.critical;
        one.critical = critical;
        return before;
    }

    /** Sets the slack; returns the slack that it was. */
    public int setSlack(int slack) throws IllegalArgumentException {
        requireWithin(slack, 0, MOST_SLACK);
        int before = slackNow;
        slackNow = slack;
        return before;
    }

    // ---- hours, relief and restoring

    /** Lets hours pass; returns the hour then. */
    public int pass(int hours) throws IllegalArgumentException {
        requireWithin(hours, 1, MOST_HOURS);
        now += hours;
        for (int k = 0; k < told.size(); k++) {
            told.get(k).letPass(hours);
        }
        return now;
    }

    /** Relieves a shortfall; returns what the feeders took that are cut by that, together. */
    public int relieve(int shortfall) throws IllegalArgumentException, NoSuchElementException {
        requireWithin(shortfall, 1, MOST_SHORTFALL);
        int set = chosenFor(shortfall);
        if (set == 0) {
            throw new NoSuchElementException("all feeders that are on and not critical take less");
        }
        int taken = 0;
        for (int k = 0; k < told.size(); k++) {
            if (holds(set, k)) {
                taken += told.get(k).switchOff();
            }
        }
        return taken;
    }

    /** Rotates; returns how many feeders are restored. */
    public int rotate() throws IllegalStateException, NoSuchElementException {
        int shortfall = takenByReturning();
        // A load is 1 at the least, so that 0 tells that no feeder would come back.
        if (shortfall == 0) {
            throw new IllegalStateException("no feeder is cut that is not critical");
        }
        int set = chosenFor(shortfall);
        if (set == 0) {
            throw new NoSuchElementException("all feeders that are on and not critical take less");
        }
        return swapFor(set);
    }

    /** Trips a stage; returns what the feeders took that are cut by that, together. */
    public int trip(int stage) throws IllegalArgumentException {
        requireWithin(stage, 1, MOST_STAGE);
        int taken = 0;
        for (int k = 0; k < told.size(); k++) {
            Feeder one = told.get(k);
            if (one.mayBeCut() && one.stage >= 1 && one.stage <= stage) {
                taken += one.switchOff();
            }
        }
        return taken;
    }

    /** Restores a feeder; returns what it takes then. */
    public int restore(int feeder) throws IndexOutOfBoundsException, IllegalStateException {
        Feeder one = feederOf(feeder);
        if (!one.off) {
            throw new IllegalStateException("the feeder is not cut");
        }
        one.switchOn();
        return one.taken();
    }

    /** Cuts a feeder, critical or not; returns what it took. */
    public int cut(int feeder) throws IndexOutOfBoundsException, IllegalStateException {
        Feeder one = feederOf(feeder);
        if (one.off) {
            throw new IllegalStateException("the feeder is cut");
        }
        return one.switchOff();
    }

    // ---- what is asked: feeders

    /** Returns the hour. */
    public int hour() {
        return now;
    }

    /** Returns how many feeders there are. */
    public int feeders() {
        return told.size();
    }

    /** Tells whether a feeder is cut. */
    public boolean isCut(int feeder) throws IndexOutOfBoundsException {
        return feederOf(feeder).off;
    }

    /** Returns the load of a feeder, with its cold part; 0 if it is cut. */
    public int takes(int feeder) throws IndexOutOfBoundsException {
        return feederOf(feeder).taken();
    }

    /** Returns the cold part of a feeder, 0 to 100 percent. */
    public int cold(int feeder) throws IndexOutOfBoundsException {
        return feederOf(feeder).coldPart;
    }

    /** Returns the hours of a feeder. */
    public int hours(int feeder) throws IndexOutOfBoundsException {
        return feederOf(feeder).hoursOff;
    }

    /** Returns what all feeders take, together. */
    public int load() {
        int sum = 0;
        for (int k = 0; k < told.size(); k++) {
            sum += told.get(k).taken();
        }
        return sum;
    }

    /** Returns the greatest hours of all feeders that are not critical, less their least; 0 without such feeders. */
    public int spread() {
        boolean any = false;
        int least = 0;
        int greatest = 0;
        for (int k = 0; k < told.size(); k++) {
            Feeder one = told.get(k);
            if (!one.critical) {
                least = any ? Math.min(least, one.hoursOff) : one.hoursOff;
                greatest = any ? Math.max(greatest, one.hoursOff) : one.hoursOff;
                any = true;
            }
        }
        return greatest - least;
    }

    // ---- what is asked: choices

    /** Returns the set of the feeders that relief for a shortfall would cut; 0 if all take less. */
    public int choice(int shortfall) throws IllegalArgumentException {
        requireWithin(shortfall, 1, MOST_SHORTFALL);
        return chosenFor(shortfall);
    }

    /** Returns the same as choice, by listing all sets. */
    public int choiceByListing(int shortfall) throws IllegalArgumentException, IllegalStateException {
        requireWithin(shortfall, 1, MOST_SHORTFALL);
        prepareSearch(shortfall);
        if (search.count > MOST_LISTED) {
            throw new IllegalStateException("more than 8 feeders are on and not critical");
        }
        return search.bestByListing();
    }

    /** Returns the feeder, on and not critical, that was cut longest; NONE if there is none. */
    public int mostCut() {
        int longest = NONE;
        int most = 0;
        for (int k = 0; k < told.size(); k++) {
            Feeder one = told.get(k);
            if (one.mayBeCut() && (longest == NONE || one.hoursOff > most)) {
                longest = k;
                most = one.hoursOff;
            }
        }
        return longest;
    }

    /** Returns what all feeders would take, together, if all that are cut were restored now. */
    public int loadRestored() {
        int sum = 0;
        for (int k = 0; k < told.size(); k++) {
            sum += told.get(k).takenIfRestored();
        }
        return sum;
    }

    // ---- what the calls share

    private static void requireWithin(int value, int least, int most) {
        if (value < least || value > most) {
            throw new IllegalArgumentException("out of range");
        }
    }

    private Feeder feederOf(int number) {
        if (number < 0 || number >= told.size()) {
            throw new IndexOutOfBoundsException("no such feeder");
        }
        return told.get(number);
    }

    private static boolean holds(int set, int number) {
        return (set >> number & 1) != 0;
    }

    private int takenByReturning() {
        int sum = 0;
        for (int k = 0; k < told.size(); k++) {
            Feeder one = told.get(k);
            if (one.mayReturn()) {
                sum += one.takenIfRestored();
            }
        }
        return sum;
    }

    /** Cuts the set and restores those cut ahead of it. One round is enough, as the set was on then. */
    private int swapFor(int set) {
        int restored = 0;
        for (int k = 0; k < told.size(); k++) {
            Feeder one = told.get(k);
            if (one.mayReturn()) {
                one.switchOn();
                restored++;
            } else if (holds(set, k)) {
                one.switchOff();
            }
        }
        return restored;
    }

    private int chosenFor(int shortfall) {
        prepareSearch(shortfall);
        return search.bestByWalking();
    }

    private void prepareSearch(int shortfall) {
        search.begin(shortfall, slackNow);
        for (int k = 0; k < told.size(); k++) {
            Feeder one = told.get(k);
            if (one.mayBeCut()) {
                search.offer(k, one.taken(), one.hoursOff);
            }
        }
    }

    /** A feeder: on or cut, with its hours and its cold part. */
    private static final class Feeder {
        private final int stage;
        private int megawatts;
        private boolean critical;
        private boolean off = false;
        private int hoursOff = 0;
        private int hoursOfThisCut = 0;
        private int coldPart = 0;

        private Feeder(int megawatts, boolean critical, int stage) {
            this.megawatts = megawatts;
            this.critical = critical;
            this.stage = stage;
        }

        private boolean mayBeCut() {
            return !off && !critical;
        }

        private boolean mayReturn() {
            return off && !critical;
        }

        private int taken() {
            return off ? 0 : withCold(coldPart);
        }

        private int takenIfRestored() {
            return off ? withCold(coldOnReturn()) : taken();
        }

        private int withCold(int part) {
            return megawatts * (WHOLE + part) / WHOLE;
        }

        private int coldOnReturn() {
            return Math.min(WHOLE, COLD_GAINED_AN_HOUR * hoursOfThisCut);
        }

        private int switchOff() {
            int before = taken();
            off = true;
            hoursOfThisCut = 0;
            coldPart = 0;
            return before;
        }

        private void switchOn() {
            coldPart = coldOnReturn();
            off = false;
        }

        private void letPass(int passed) {
            if (off) {
                hoursOff += passed;
                hoursOfThisCut += passed;
            } else {
                coldPart = Math.max(0, coldPart - COLD_LOST_AN_HOUR * passed);
            }
        }
    }

    /** The search for a choice. One is kept for all calls, so that asking makes nothing new. */
    private static final class Search {
        private final int[] bits = new int[MOST_FEEDERS];
        private final int[] takenBy = new int[MOST_FEEDERS];
        private final int[] hoursOf = new int[MOST_FEEDERS];
        private final int[] takenBelow = new int[MOST_FEEDERS + 1];
        private int count = 0;
        private int shortfall = 0;
        private int nearLimit = 0;
        private int bestSet = 0;
        private int bestTaken = 0;
        private int bestHours = 0;

        private void begin(int shortfall, int slack) {
            this.shortfall = shortfall;
            nearLimit = shortfall + slack;
            count = 0;
            bestSet = 0;
        }

        /** Feeders are offered by rising number. */
        private void offer(int number, int taken, int hours) {
            if (count >= MOST_FEEDERS) {
                return;
            }
            bits[count] = 1 << number;
            takenBy[count] = taken;
            hoursOf[count] = hours;
            takenBelow[count + 1] = takenBelow[count] + taken;
            count++;
        }

        private int bestByWalking() {
            walk(this, count, 0, 0, 0);
            return bestSet;
        }

        /**
         * Puts in or leaves out what was offered below 'open'. It stops where the shortfall is met, since
         * one feeder more takes more and has no fewer hours, and where all that is left can't meet it.
         */
        private static void walk(Search at, int open, int set, int taken, int hours) {
            if (taken >= at.shortfall) {
                at.weigh(set, taken, hours);
                return;
            }
            if (open < 1 || open > MOST_FEEDERS || taken + at.takenBelow[open] < at.shortfall) {
                return;
            }
            int next = open - 1;
            walk(at, next, set, taken, hours);
            walk(at, next, set | at.bits[next], taken + at.takenBy[next], hours + at.hoursOf[next]);
        }

        private int bestByListing() {
            int sets = 1 << count;
            for (int listed = 1; listed < sets; listed++) {
                weighListed(listed);
            }
            return bestSet;
        }

        private void weighListed(int listed) {
            int set = 0;
            int taken = 0;
            int hours = 0;
            for (int i = 0; i < count && i < MOST_FEEDERS; i++) {
                if (holds(listed, i)) {
                    set |= bits[i];
                    taken += takenBy[i];
                    hours += hoursOf[i];
                }
            }
            if (taken >= shortfall) {
                weigh(set, taken, hours);
            }
        }

        private void weigh(int set, int taken, int hours) {
            if (bestSet == 0 || isBetter(set, taken, hours)) {
                bestSet = set;
                bestTaken = taken;
                bestHours = hours;
            }
        }

        private boolean isBetter(int set, int taken, int hours) {
            boolean near = taken <= nearLimit;
            if (near != (bestTaken <= nearLimit)) {
                return near;
            }
            if (taken == bestTaken && hours == bestHours) {
                return set < bestSet;
            }
            if (near) {
                return hours != bestHours ? hours < bestHours : taken < bestTaken;
            }
            return taken != bestTaken ? taken < bestTaken : hours < bestHours;
        }
    }
}
