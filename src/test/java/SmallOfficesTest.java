/**
 * All offices of three feeders with loads 1 to 3 that were cut for 0, 5, 10 or 15 hours, and restored 0 to 2 hours
 * ago: for slacks 0 to 3 and each shortfall up to what can't be met, the choice is the model's, in ties of all kinds.
 */
public final class SmallOfficesTest {
    private static final Due DUE = new Due("SmallOfficesTest");
    private static final int FEEDERS = 3;
    private static final int LOADS = 3;
    private static final int STEPS = 4;
    private static final int HOURS_A_STEP = 5;
    private static final int KINDS = LOADS * STEPS;
    private static final int MOST_TAKEN = 18;

    private final Shedwheel office = new Shedwheel();
    private final Model model = new Model();
    private final int code;

    private SmallOfficesTest(int code) {
        this.code = code;
    }

    public static void main(String[] args) {
        for (int code = 0; code < KINDS * KINDS * KINDS; code++) {
            for (int later = 0; later <= 2; later++) {
                new SmallOfficesTest(code).holdChoices(later);
            }
        }
        DUE.end();
    }

    private int kindOf(int feeder) {
        int rest = code;
        for (int k = 0; k < feeder; k++) {
            rest /= KINDS;
        }
        return rest % KINDS;
    }

    private void both(Calls call, int a, int b) {
        String want = model.answer(call, a, b, false);
        DUE.same("office " + code + ", " + call + "(" + a + ", " + b + ")", call.answer(office, a, b, false), want);
    }

    /** Cuts each feeder for its hours, the longest first, restores all and lets some hours pass. */
    private void make(int later) {
        for (int k = 0; k < FEEDERS; k++) {
            both(Calls.FEEDER, 1 + kindOf(k) % LOADS, 0);
        }
        for (int step = STEPS - 1; step > 0; step--) {
            for (int k = 0; k < FEEDERS; k++) {
                if (kindOf(k) / LOADS == step) {
                    both(Calls.CUT, k, 0);
                }
            }
            both(Calls.PASS, HOURS_A_STEP, 0);
        }
        for (int k = 0; k < FEEDERS; k++) {
            if (kindOf(k) / LOADS > 0) {
                both(Calls.RESTORE, k, 0);
            }
        }
        if (later > 0) {
            both(Calls.PASS, later, 0);
        }
    }

    private void holdChoices(int later) {
        make(later);
        for (int slack = 0; slack <= 3; slack++) {
            both(Calls.SET_SLACK, slack, 0);
            for (int shortfall = 1; shortfall <= MOST_TAKEN + 1; shortfall++) {
                both(Calls.CHOICE, shortfall, 0);
                both(Calls.CHOICE_BY_LISTING, shortfall, 0);
            }
        }
        both(Calls.RELIEVE, 1 + code % 9, 0);
        both(Calls.ROTATE, 0, 0);
        both(Calls.LOAD, 0, 0);
        both(Calls.LOAD_RESTORED, 0, 0);
    }
}
