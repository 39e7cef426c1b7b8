/**
 * Runs of 512 calls, the same in each run of the test, on the program and on the model: every answer must
 * be the same. Some calls are followed by all that can be asked of the office, thrown or not.
 */
public final class ModelTest {
    private static final int OFFICES = 3000;
    private static final int CALLS = 512;
    private static final int[] ODD = {Integer.MIN_VALUE, -1000, -1, 0, 4, 12, 13, 100, 101, 999, 1000, 20000, 20001,
        Integer.MAX_VALUE};
    private static final Calls[] ALL = Calls.values();
    private static final Calls[] PLAIN = {Calls.HOUR, Calls.FEEDERS, Calls.LOAD, Calls.SPREAD, Calls.MOST_CUT,
        Calls.LOAD_RESTORED};
    private static final Calls[] OF_A_FEEDER = {Calls.IS_CUT, Calls.TAKES, Calls.COLD, Calls.HOURS};

    private static final Due DUE = new Due("ModelTest");
    private static long seed = 20260719L;

    private final int run;
    private final int mostLoad;
    private final int mostHours;
    private final int feeders;
    private final Shedwheel office = new Shedwheel();
    private final Model model = new Model();
    private int calls = 0;

    /** Small loads and short times make ties, great ones make sums that are far apart. */
    private ModelTest(int run) {
        this.run = run;
        mostLoad = new int[] {3, 12, 60, 999}[run % 4];
        mostHours = new int[] {1, 3, 12, 100}[run / 4 % 4];
        feeders = 1 + next(12);
    }

    public static void main(String[] args) {
        for (int run = 0; run < OFFICES; run++) {
            new ModelTest(run).holdOneOffice();
        }
        DUE.end();
    }

    /** 0 up to one below the bound. */
    private static int next(int bound) {
        seed = seed * 6364136223846793005L + 1442695040888963407L;
        return (int) ((seed >>> 33) % bound);
    }

    private void holdOneOffice() {
        while (calls < CALLS) {
            Calls call = calls < feeders ? Calls.FEEDER : nextCall();
            int a = next(20) == 0 ? ODD[next(ODD.length)] : nextNumber(call);
            int b = next(20) == 0 ? ODD[next(ODD.length)] : call == Calls.FEEDER ? next(4) : 1 + next(mostLoad);
            boolean thrown = hold(call, a, b, next(5) == 0).startsWith("throws");
            if (next(thrown ? 4 : 30) == 0) {
                holdAll();
            }
        }
    }

    /** Restoring and passing come often, so that feeders are on, cold and of many hours. */
    private static Calls nextCall() {
        int kind = next(10);
        if (kind < 2) {
            return Calls.PASS;
        }
        return kind < 4 ? Calls.RESTORE : kind < 5 ? Calls.ROTATE : ALL[next(ALL.length)];
    }

    private int nextNumber(Calls call) {
        switch (call) {
            case FEEDER: return 1 + next(mostLoad);
            case SET_SLACK: return next(mostLoad + 1);
            case PASS: return 1 + next(mostHours);
            case RELIEVE: return 1 + next(mostLoad * 3);
            case TRIP: return 1 + next(3);
            case CHOICE:
            case CHOICE_BY_LISTING: return 1 + next(mostLoad * 8);
            default: return next(feeders);
        }
    }

    /** Makes the call, unless the object has had its 512, and returns what is due. */
    private String hold(Calls call, int a, int b, boolean flag) {
        if (calls >= CALLS) {
            return "";
        }
        calls++;
        String want = model.answer(call, a, b, flag);
        DUE.same("office " + run + ", call " + calls + ", " + call + "(" + a + ", " + b + ", " + flag + ")",
                call.answer(office, a, b, flag), want);
        return want;
    }

    private void holdAll() {
        for (Calls call : PLAIN) {
            hold(call, 0, 0, false);
        }
        for (int k = 0; k < feeders; k++) {
            for (Calls call : OF_A_FEEDER) {
                hold(call, k, 0, false);
            }
        }
        int shortfall = 1 + next(mostLoad * feeders);
        hold(Calls.CHOICE, shortfall, 0, false);
        hold(Calls.CHOICE_BY_LISTING, shortfall, 0, false);
    }
}
