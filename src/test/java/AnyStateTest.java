import java.lang.reflect.Method;
import java.util.Arrays;
import java.util.Set;
import java.util.TreeSet;

/**
 * Rule 7 of LANGUAGE.md: for any arguments in any state a call ends, and throws nothing but what its throws clause
 * names, by a throw of the program. Answers beyond the 512th call are free and aren't looked at, but that they come.
 */
public final class AnyStateTest {
    private static final int[] ODD = {Integer.MIN_VALUE, Integer.MIN_VALUE + 1, -20001, -1000, -12, -1, 0, 1, 2, 3, 4, 8,
        11, 12, 13, 31, 32, 100, 101, 999, 1000, 20000, 20001, 65536, Integer.MAX_VALUE - 1, Integer.MAX_VALUE};
    private static final int CALLS = 100_000;
    private static final int FAR = 22_000_000;
    private static final String[] NAMES = Arrays.stream(Calls.values()).map(call -> call.name().replace("_", ""))
            .toArray(String[]::new);
    private static final Set<?>[] CLAUSES = Arrays.stream(NAMES).map(AnyStateTest::clauseOf).toArray(Set<?>[]::new);

    private static final Due DUE = new Due("AnyStateTest");
    private static long seed = 20261120L;

    public static void main(String[] args) {
        holdAllArguments("new", new Shedwheel());
        holdAllArguments("one of each kind", Offices.mixed());
        holdAllArguments("full", Offices.mixedAndFull());
        holdAllArguments("full and cold", Offices.greatAndCold());
        holdAllArguments("none open", Offices.mixedNoneOpen());
        holdManyCalls("one of each kind", Offices.mixed());
        Shedwheel far = hoursBeyondAnInt();
        holdAllArguments("hours beyond an int", far);
        holdManyCalls("hours beyond an int", far);
        DUE.end();
    }

    /** Twelve feeders of which eleven were cut for more hours than an int counts; some are restored then. */
    private static Shedwheel hoursBeyondAnInt() {
        Shedwheel office = Offices.great(12);
        for (int k = 0; k < 11; k++) {
            office.cut(k);
        }
        for (int times = 0; times < FAR; times++) {
            office.pass(100);
        }
        for (int k = 0; k < 11; k += 2) {
            office.restore(k);
        }
        return office;
    }

    private static int next(int bound) {
        seed = seed * 6364136223846793005L + 1442695040888963407L;
        return (int) ((seed >>> 33) % bound);
    }

    private static void holdAllArguments(String what, Shedwheel office) {
        for (Calls call : Calls.values()) {
            for (int a : ODD) {
                for (int b : ODD) {
                    hold(what, office, call, a, b, true);
                    hold(what, office, call, b, a, false);
                }
            }
        }
    }

    private static void holdManyCalls(String what, Shedwheel office) {
        Calls[] all = Calls.values();
        for (int times = 0; times < CALLS; times++) {
            hold(what, office, all[next(all.length)], next(13), next(13), next(4) == 0);
        }
    }

    private static void hold(String what, Shedwheel office, Calls call, int a, int b, boolean flag) {
        String got = call.answer(office, a, b, flag);
        boolean fits = got.matches("-?\\d+|true|false") || CLAUSES[call.ordinal()].contains(got);
        DUE.same(what + ": " + call + "(" + a + ", " + b + ", " + flag + ") = " + got + " fits", fits, true);
    }

    /** What the call of this name may answer by throwing, as its throws clause says. */
    private static Set<String> clauseOf(String name) {
        Set<String> clause = new TreeSet<>();
        for (Method method : Shedwheel.class.getMethods()) {
            if (method.getName().equalsIgnoreCase(name)) {
                Arrays.stream(method.getExceptionTypes()).forEach(type -> clause.add("throws." + type.getSimpleName()));
            }
        }
        return clause;
    }
}
