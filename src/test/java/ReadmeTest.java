import java.io.File;
import java.io.IOException;
import java.lang.reflect.InvocationTargetException;
import java.lang.reflect.Method;
import java.lang.reflect.Modifier;
import java.nio.file.Files;
import java.nio.file.Path;
import java.util.Arrays;
import java.util.Set;
import java.util.TreeSet;
import java.util.regex.Matcher;
import java.util.regex.Pattern;

/** README.md holds: its calls answer what stands behind them, and it leaves out no call and no test. Run it from the project's root. */
final class ReadmeTest {
    private static final Pattern CALL = Pattern.compile(
        "^desk\\.(\\w+)\\(([-\\d, ]*)\\);\\s+// (throws \\w+|true|false|-?\\d+)(?=[:;\\n])", Pattern.MULTILINE);
    private static final int MOST_CALLS = 512;

    public static void main(String[] args) throws IOException, ReflectiveOperationException {
        String page = Files.readString(Path.of("README.md"));
        callsAnswerWhatThePageSays(page);
        noTestIsLeftOut(page);
        Check.end("ReadmeTest");
    }

    private static void callsAnswerWhatThePageSays(String page) throws ReflectiveOperationException {
        MarginDesk desk = new MarginDesk();
        Set<String> made = new TreeSet<>();
        int calls = 0;
        Matcher call = CALL.matcher(page);
        while (call.find()) {
            Check.due("README.md: " + call.group(), call.group(3), answer(desk, call.group(1), call.group(2)));
            made.add(call.group(1));
            calls++;
        }
        Check.due("calls seen among those that stand there", page.split("\ndesk\\.", -1).length - 1, calls);
        Check.due("no more calls than an object is used for", true, calls <= MOST_CALLS);
        Check.due("the calls of the page", faceNames().toString(), made.toString());
    }

    private static Set<String> faceNames() {
        Set<String> names = new TreeSet<>();
        for (Method method : MarginDesk.class.getDeclaredMethods()) {
            if (Modifier.isPublic(method.getModifiers())) {
                names.add(method.getName());
            }
        }
        return names;
    }

    private static String answer(MarginDesk desk, String name, String arguments) throws ReflectiveOperationException {
        Object[] numbers = arguments.isEmpty() ? new Object[0]
            : Arrays.stream(arguments.split(", ")).map(Integer::valueOf).toArray();
        Class<?>[] types = new Class<?>[numbers.length];
        Arrays.fill(types, int.class);
        try {
            return String.valueOf(MarginDesk.class.getMethod(name, types).invoke(desk, numbers));
        } catch (InvocationTargetException thrown) {
            return "throws " + thrown.getCause().getClass().getSimpleName();
        }
    }

    private static void noTestIsLeftOut(String page) {
        String[] files = new File("src/test/java").list();
        Check.due("tests are found", true, files != null && files.length > 0);
        for (String file : files == null ? new String[0] : files) {
            String name = file.replace(".java", "");
            String sign = name.endsWith("Test") ? "\n| " + name + " |" : "`" + name + "`";
            Check.due("README.md names " + name, true, page.contains(sign));
        }
    }
}
