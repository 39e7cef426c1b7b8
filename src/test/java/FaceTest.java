import java.lang.reflect.Constructor;
import java.lang.reflect.Field;
import java.lang.reflect.Method;
import java.lang.reflect.Modifier;
import java.util.Arrays;
import java.util.Set;
import java.util.TreeSet;

/** The public face is the document's, to the letter, and nothing else is seen from outside. */
public final class FaceTest {
    private static final String INDEX = " throws java.lang.IndexOutOfBoundsException";
    private static final String ARGUMENT = " throws java.lang.IllegalArgumentException";
    private static final String AND_STATE = ",java.lang.IllegalStateException";
    private static final String AND_ELEMENT = ",java.util.NoSuchElementException";
    private static final String[] FACE = {
        "int feeder(int,boolean,int)" + ARGUMENT + AND_STATE,
        "int setLoad(int,int)" + INDEX + ",java.lang.IllegalArgumentException",
        "boolean setCritical(int,boolean)" + INDEX,
        "int setSlack(int)" + ARGUMENT,
        "int pass(int)" + ARGUMENT,
        "int relieve(int)" + ARGUMENT + AND_ELEMENT,
        "int rotate() throws java.lang.IllegalStateException" + AND_ELEMENT,
        "int trip(int)" + ARGUMENT,
        "int restore(int)" + INDEX + AND_STATE,
        "int cut(int)" + INDEX + AND_STATE,
        "int hour()",
        "int feeders()",
        "boolean isCut(int)" + INDEX,
        "int takes(int)" + INDEX,
        "int cold(int)" + INDEX,
        "int hours(int)" + INDEX,
        "int load()",
        "int spread()",
        "int choice(int)" + ARGUMENT,
        "int choiceByListing(int)" + ARGUMENT + AND_STATE,
        "int mostCut()",
        "int loadRestored()",
    };

    private static final Due DUE = new Due("FaceTest");

    public static void main(String[] args) {
        holdMembers();
        holdNames();
        DUE.end();
    }

    private static void holdMembers() {
        DUE.same("the class", Modifier.toString(Shedwheel.class.getModifiers()), "public final");
        Set<String> methods = new TreeSet<>();
        for (Method method : Shedwheel.class.getDeclaredMethods()) {
            if (!Modifier.isPrivate(method.getModifiers())) {
                methods.add(method.toGenericString());
            }
        }
        Set<String> wanted = new TreeSet<>();
        for (String line : FACE) {
            wanted.add("public " + line.replaceFirst(" ", " Shedwheel."));
        }
        DUE.same("the methods", methods, wanted);
        Set<String> constructors = new TreeSet<>();
        for (Constructor<?> constructor : Shedwheel.class.getDeclaredConstructors()) {
            constructors.add(constructor.toGenericString());
        }
        DUE.same("the constructors", constructors, Set.of("public Shedwheel()"));
        Set<String> fields = new TreeSet<>();
        for (Field field : Shedwheel.class.getDeclaredFields()) {
            if (!Modifier.isPrivate(field.getModifiers())) {
                fields.add(field.toGenericString());
            }
        }
        DUE.same("the fields", fields, Set.of("public static final int Shedwheel.NONE"));
    }

    /** No private method bears the name of a public one, in the classes inside either. */
    private static void holdNames() {
        for (Class<?> inside : Shedwheel.class.getDeclaredClasses()) {
            DUE.same(inside + " is private and static", Modifier.isPrivate(inside.getModifiers())
                    && Modifier.isStatic(inside.getModifiers()), true);
            Arrays.stream(inside.getDeclaredMethods()).forEach(FaceTest::holdName);
        }
        Arrays.stream(Shedwheel.class.getDeclaredMethods())
                .filter(method -> Modifier.isPrivate(method.getModifiers())).forEach(FaceTest::holdName);
    }

    private static void holdName(Method method) {
        boolean taken = Arrays.stream(FACE).anyMatch(line -> line.contains(" " + method.getName() + "("));
        DUE.same(method + " bears a public name", taken, false);
    }
}
