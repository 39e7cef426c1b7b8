import java.io.IOException;
import java.lang.reflect.InvocationTargetException;
import java.lang.reflect.Method;
import java.lang.reflect.Modifier;
import java.nio.file.Files;
import java.nio.file.Path;
import java.util.Arrays;
import java.util.List;
import java.util.regex.Matcher;
import java.util.regex.Pattern;
import java.util.stream.Collectors;

/** README.md says what the class does: its example answers so, and each call of the face has a row that fits it. */
public final class ReadmeTest {
    private static final Pattern EXAMPLE = Pattern.compile("office\\.(\\w+)\\((.*)\\); +// (-?\\w+)(:.*)?");

    private static final Due DUE = new Due("ReadmeTest");

    public static void main(String[] args) throws IOException, ReflectiveOperationException {
        List<String> lines = Files.readAllLines(Path.of("README.md"));
        holdExample(lines);
        for (Method method : Shedwheel.class.getDeclaredMethods()) {
            if (Modifier.isPublic(method.getModifiers())) {
                holdRow(lines, method);
            }
        }
        DUE.end();
    }

    /** Each line of the example is a call and what it answers. */
    private static void holdExample(List<String> lines) throws ReflectiveOperationException {
        Shedwheel office = new Shedwheel();
        int calls = 0;
        for (String line : lines) {
            Matcher call = EXAMPLE.matcher(line);
            if (line.startsWith("office.") && call.matches()) {
                DUE.same(line, answer(office, call.group(1), call.group(2)), call.group(3));
                calls++;
            }
        }
        long told = lines.stream().filter(line -> line.startsWith("office.")).count();
        DUE.same("all lines of the example are calls", (long) calls, told);
        DUE.same("there is an example", calls > 0, true);
    }

    private static String answer(Shedwheel office, String name, String arguments) throws ReflectiveOperationException {
        Object[] values = Arrays.stream(arguments.split(", *")).filter(text -> !text.isEmpty())
                .map(ReadmeTest::value).toArray();
        try {
            return String.valueOf(methodOf(name).invoke(office, values));
        } catch (InvocationTargetException e) {
            return "throws " + e.getCause();
        }
    }

    private static Object value(String text) {
        return text.equals("true") || text.equals("false") ? (Object) Boolean.valueOf(text) : Integer.valueOf(text);
    }

    private static Method methodOf(String name) {
        return Arrays.stream(Shedwheel.class.getMethods()).filter(method -> method.getName().equals(name))
                .findFirst().orElseThrow();
    }

    /** Its row names the types of its arguments, and its exceptions in the order of its throws clause. */
    private static void holdRow(List<String> lines, Method method) {
        List<String> rows = lines.stream().filter(line -> line.startsWith("| `" + method.getName() + "(")).toList();
        DUE.same("rows of " + method.getName(), rows.size(), 1);
        if (rows.size() != 1) {
            return;
        }
        String[] cells = rows.get(0).split("\\|");
        String types = Arrays.stream(method.getParameterTypes()).map(Class::getName).collect(Collectors.joining(","));
        String told = cells[1].replaceAll(".*\\(|\\).*", "").replaceAll(" \\w+(?=,|$)", "").replace(", ", ",");
        DUE.same("arguments of " + method.getName(), told, types);
        List<String> thrown = Arrays.stream(method.getExceptionTypes()).map(Class::getSimpleName).toList();
        List<String> toldThrown = Arrays.stream(cells[4].split(";")).map(String::trim)
                .filter(text -> !text.isEmpty()).map(text -> text.replaceAll(":.*", "")).toList();
        DUE.same("exceptions of " + method.getName(), toldThrown, thrown.stream().map(ReadmeTest::shortName).toList());
    }

    private static String shortName(String exception) {
        return exception.replace("IndexOutOfBounds", "Index").replaceAll("Illegal|NoSuch|Exception", "");
    }
}
