import java.io.IOException;
import java.lang.reflect.Constructor;
import java.lang.reflect.Field;
import java.lang.reflect.Method;
import java.lang.reflect.Modifier;
import java.nio.file.Files;
import java.nio.file.Path;
import java.util.Arrays;
import java.util.List;
import java.util.Set;
import java.util.TreeSet;

/** The public face is the document's, to the letter, and the program's text keeps to what LANGUAGE.md leaves. */
public final class FaceTest {
    private static final String INDEX = " throws java.lang.IndexOutOfBoundsException";
    private static final String ARGUMENT = " throws java.lang.IllegalArgumentException";
    private static final String AND_STATE = ",java.lang.IllegalStateException";
    private static final String AND_ELEMENT = ",java.util.NoSuchElementException";
    private static final String[] FACE = {
        "int feeder(int,boolean,int)" + ARGUMENT + AND_STATE,
        "int setLoad(int,int)" + INDEX + ",java.lang.IllegalArgumentException",
        "boolean setCritical(int,boolean)" + INDEX,
        "int setSlack(int)" + ARGUMENT,
        "int pass(int)" + ARGUMENT,
        "int relieve(int)" + ARGUMENT + AND_ELEMENT,
        "int rotate() throws java.lang.IllegalStateException" + AND_ELEMENT,
        "int trip(int)" + ARGUMENT,
        "int restore(int)" + INDEX + AND_STATE,
        "int cut(int)" + INDEX + AND_STATE,
        "int hour()",
        "int feeders()",
        "boolean isCut(int)" + INDEX,
        "int takes(int)" + INDEX,
        "int cold(int)" + INDEX,
        "int hours(int)" + INDEX,
        "int load()",
        "int spread()",
        "int choice(int)" + ARGUMENT,
        "int choiceByListing(int)" + ARGUMENT + AND_STATE,
        "int mostCut()",
        "int loadRestored()",
    };
    private static final String[] RULED_OUT = {"catch", "finally", "synchronized", "assert ", "->", "::", "System.",
        "Math.random", "Exact(", ".stream(", "hashCode", "equals(", "Thread", "static {", "protected", "package "};

    private static final Due DUE = new Due("FaceTest");

    public static void main(String[] args) throws IOException {
        holdMembers();
        holdNames();
        holdSizes();
        holdText();
        DUE.end();
    }

    private static void holdMembers() {
        DUE.same("the class", Modifier.toString(Shedwheel.class.getModifiers()), "public final");
        Set<String> methods = new TreeSet<>();
        for (Method method : Shedwheel.class.getDeclaredMethods()) {
            if (!Modifier.isPrivate(method.getModifiers())) {
                methods.add(method.toGenericString());
            }
        }
        Set<String> wanted = new TreeSet<>();
        for (String line : FACE) {
            wanted.add("public " + line.replaceFirst(" ", " Shedwheel."));
        }
        DUE.same("the methods", methods, wanted);
        Set<String> constructors = new TreeSet<>();
        for (Constructor<?> constructor : Shedwheel.class.getDeclaredConstructors()) {
            constructors.add(constructor.toGenericString());
        }
        DUE.same("the constructors", constructors, Set.of("public Shedwheel()"));
        Set<String> fields = new TreeSet<>();
        for (Field field : Shedwheel.class.getDeclaredFields()) {
            if (!Modifier.isPrivate(field.getModifiers())) {
                fields.add(field.toGenericString());
            }
        }
        DUE.same("the fields", fields, Set.of("public static final int Shedwheel.NONE"));
    }

    /** No private method bears the name of a public one, in the classes inside either. */
    private static void holdNames() {
        for (Class<?> inside : Shedwheel.class.getDeclaredClasses()) {
            DUE.same(inside + " is private and static", Modifier.isPrivate(inside.getModifiers())
                    && Modifier.isStatic(inside.getModifiers()), true);
            Arrays.stream(inside.getDeclaredMethods()).forEach(FaceTest::holdName);
        }
        Arrays.stream(Shedwheel.class.getDeclaredMethods())
                .filter(method -> Modifier.isPrivate(method.getModifiers())).forEach(FaceTest::holdName);
    }

    private static void holdName(Method method) {
        boolean taken = Arrays.stream(FACE).anyMatch(line -> line.contains(" " + method.getName() + "("));
        DUE.same(method + " bears a public name", taken, false);
    }

    /** Rules 5 and 11: static fields are final; few parameters, few classes, few fields. */
    private static void holdSizes() {
        DUE.same("twelve classes at most", Shedwheel.class.getDeclaredClasses().length < 12, true);
        holdSizesOf(Shedwheel.class);
        Arrays.stream(Shedwheel.class.getDeclaredClasses()).forEach(FaceTest::holdSizesOf);
    }

    private static void holdSizesOf(Class<?> one) {
        long fields = 0;
        for (Field field : one.getDeclaredFields()) {
            boolean fixed = Modifier.isStatic(field.getModifiers());
            DUE.same(field + " is not static or final", !fixed || Modifier.isFinal(field.getModifiers()), true);
            fields += fixed ? 0 : 1;
        }
        DUE.same(one + " has twenty fields at most", fields <= 20, true);
        for (Method method : one.getDeclaredMethods()) {
            DUE.same(method + " has seven parameters at most", method.getParameterCount() <= 7, true);
        }
    }

    private static void holdText() throws IOException {
        String text = Files.readString(Path.of("src/main/java/Shedwheel.java"));
        for (String word : RULED_OUT) {
            DUE.same("the text holds '" + word + "'", text.contains(word), false);
        }
        DUE.same("the imports", text.lines().filter(line -> line.startsWith("import")).toList(),
                List.of("import java.util.ArrayList;", "import java.util.NoSuchElementException;"));
        DUE.same("the text is plain", text.chars().allMatch(sign -> sign < 128), true);
    }
}
