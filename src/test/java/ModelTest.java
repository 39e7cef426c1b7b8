/**
 * Long runs of calls, the same in each run of the test, on the program and on the model: every answer
 * must be the same, and all that can be asked of each feeder behind each call, thrown or not.
 */
public final class ModelTest {
    private static final int OFFICES = 240;
    private static final int CALLS = 512;
    private static final int[] ODD = {Integer.MIN_VALUE, -1000, -1, 0, 12, 13, 101, 1000, 20001, Integer.MAX_VALUE};
    private static final Calls[] ALL = Calls.values();
    private static final Calls[] PLAIN = {Calls.HOUR, Calls.FEEDERS, Calls.LOAD, Calls.SPREAD, Calls.MOST_CUT,
        Calls.LOAD_RESTORED};
    private static final Calls[] OF_A_FEEDER = {Calls.IS_CUT, Calls.TAKES, Calls.COLD, Calls.HOURS};

    private static final Due DUE = new Due("ModelTest");
    private static long seed = 20260719L;

    public static void main(String[] args) {
        for (int run = 0; run < OFFICES; run++) {
            holdOneOffice(run);
        }
        DUE.end();
    }

    /** 0 up to one below the bound. */
    private static int next(int bound) {
        seed = seed * 6364136223846793005L + 1442695040888963407L;
        return (int) ((seed >>> 33) % bound);
    }

    private static void holdOneOffice(int run) {
        Shedwheel office = new Shedwheel();
        Model model = new Model();
        // Small loads and short times make ties, great ones make sums that are far apart.
        int mostLoad = new int[] {3, 12, 60, 999}[run % 4];
        int mostHours = new int[] {1, 3, 12, 100}[run / 4 % 4];
        int feeders = 1 + next(12);
        for (int call = 0; call < CALLS; call++) {
            Calls one = call < feeders ? Calls.FEEDER : nextCall();
            int a = next(20) == 0 ? ODD[next(ODD.length)] : nextNumber(one, mostLoad, mostHours, feeders);
            int b = next(20) == 0 ? ODD[next(ODD.length)] : one == Calls.FEEDER ? next(4) : 1 + next(mostLoad);
            boolean flag = next(5) == 0;
            hold(run + "." + call, office, model, one, a, b, flag);
            holdAll(run + "." + call + " behind " + one, office, model);
        }
    }

    /** Restoring and passing come often, so that feeders are on, cold and of many hours. */
    private static Calls nextCall() {
        int kind = next(10);
        if (kind < 2) {
            return Calls.PASS;
        }
        return kind < 4 ? Calls.RESTORE : kind < 5 ? Calls.ROTATE : ALL[next(ALL.length)];
    }

    private static int nextNumber(Calls call, int mostLoad, int mostHours, int feeders) {
        switch (call) {
            case FEEDER: return 1 + next(mostLoad);
            case SET_SLACK: return next(mostLoad + 1);
            case PASS: return 1 + next(mostHours);
            case RELIEVE: return 1 + next(mostLoad * 3);
            case TRIP: return 1 + next(3);
            case CHOICE:
            case CHOICE_BY_LISTING: return 1 + next(mostLoad * 8);
            default: return next(feeders);
        }
    }

    private static void hold(String at, Shedwheel office, Model model, Calls call, int a, int b, boolean flag) {
        DUE.same(at + " " + call + "(" + a + ", " + b + ", " + flag + ")", call.answer(office, a, b, flag),
                model.answer(call, a, b, flag));
    }

    private static void holdAll(String at, Shedwheel office, Model model) {
        for (Calls call : PLAIN) {
            hold(at, office, model, call, 0, 0, false);
        }
        for (int k = 0; k < office.feeders(); k++) {
            for (Calls call : OF_A_FEEDER) {
                hold(at, office, model, call, k, 0, false);
            }
        }
        int shortfall = 1 + next(1 + Math.min(19999, office.load()));
        String choice = Calls.CHOICE.answer(office, shortfall, 0, false);
        hold(at, office, model, Calls.CHOICE, shortfall, 0, false);
        String listed = Calls.CHOICE_BY_LISTING.answer(office, shortfall, 0, false);
        if (!listed.startsWith("throws")) {
            DUE.same(at + " choiceByListing(" + shortfall + ")", listed, choice);
        }
    }
}
