import java.io.IOException;
import java.lang.reflect.Field;
import java.lang.reflect.Method;
import java.lang.reflect.Modifier;
import java.nio.file.Files;
import java.nio.file.Path;
import java.util.ArrayList;
import java.util.HashMap;
import java.util.List;
import java.util.Map;
import java.util.Set;
import java.util.TreeSet;
import java.util.regex.Matcher;
import java.util.regex.Pattern;

/**
 * Those rules of ../shared/LANGUAGE.md that can be seen in the text of the class or by looking at the class.
 * Run it from the project's root.
 */
final class LanguageTest {
    private static final String[][] RULED_OUT = {
        {"rule 1", "^package "},
        {"rule 4", "^import (?!java\\.util\\.Arrays;)"},
        {"rule 5", "static \\{"},
        {"rule 6", "\\b(finally|synchronized|assert|catch|try|instanceof)\\b"},
        {"rule 6", "throw (?!new (IllegalState|IllegalArgument|IndexOutOfBounds)Exception\\(\"[^\"]*\"\\);)"},
        {"rule 6", "\\b(equals|hashCode|toString)\\("},
        {"rule 3, no lambda", "->|::"},
        {"rule 3, no floats", "\\b(double|float)\\b"},
        {"rule 9", "while \\(true\\)|for \\(;;\\)|\\bdo \\{"},
        {"rule 10", "\" \\+|\\+ \""},
        {"rule 12, objects are made in fields and thrown alone",
            "^(?! {4}( {4})?private final [^\\n]*= new |\\s+throw new |\\s+//|/\\*\\*)[^\\n]*\\bnew "},
        {"its signs", "[^\\x20-\\x7e\\n]"},
    };
    private static final Set<String> LIBRARY = Set.of(
        "Math.max", "Math.min", "Integer.bitCount", "System.arraycopy", "Arrays.fill");
    private static final int MOST_LINES_OF_A_METHOD = 60;
    private static final int MOST_CLASSES = 12;
    private static final int MOST_FIELDS = 20;
    private static final int MOST_PARAMETERS = 7;
    private static final int DEEPEST_CALLS = 8;

    public static void main(String[] args) throws IOException {
        String source = Files.readString(Path.of("src/main/java/MarginDesk.java"));
        for (String[] rule : RULED_OUT) {
            Matcher found = Pattern.compile(rule[1], Pattern.MULTILINE).matcher(source);
            while (found.find()) {
                Check.fail(rule[0] + ": " + found.group() + " at sign " + found.start());
            }
        }
        library(source);
        Map<String, String> bodies = bodies(source);
        methodsAreShort(bodies);
        callsAreNotDeep(bodies);
        List<Class<?>> classes = new ArrayList<>(List.of(MarginDesk.class.getDeclaredClasses()));
        classes.add(MarginDesk.class);
        Check.due("rule 11, few classes", true, classes.size() <= MOST_CLASSES);
        classes.forEach(LanguageTest::fields);
        classes.forEach(LanguageTest::methods);
        Check.end("LanguageTest");
    }

    /** Rule 4. */
    private static void library(String source) {
        Matcher used = Pattern.compile("\\b(?!MarginDesk)([A-Z][a-z]+)\\.(\\w+)").matcher(source);
        while (used.find()) {
            boolean isImport = source.startsWith("import java.util.", used.start() - "import java.util.".length());
            boolean isComment = used.group().equals("README.md");
            Check.due("rule 4, " + used.group(), true, LIBRARY.contains(used.group()) || isImport || isComment);
        }
    }

    private static Map<String, String> bodies(String source) {
        Matcher method = Pattern.compile(
            "^( {4}| {8})(?:public|private)(?: static)? (?:int|boolean|void) (\\w+)\\([^{;]*?\\{\\n(.*?)^\\1\\}$",
            Pattern.MULTILINE | Pattern.DOTALL).matcher(source);
        Map<String, String> bodies = new HashMap<>();
        while (method.find()) {
            Check.due("only one method is called " + method.group(2), true, bodies.put(method.group(2), method.group(3)) == null);
        }
        int methods = 0;
        for (Class<?> inside : MarginDesk.class.getDeclaredClasses()) {
            methods += inside.getDeclaredMethods().length;
        }
        Check.due("methods seen in the text", methods + MarginDesk.class.getDeclaredMethods().length, bodies.size());
        return bodies;
    }

    /** Rule 11. */
    private static void methodsAreShort(Map<String, String> bodies) {
        bodies.forEach((name, body) -> Check.due("rule 11, " + name + " is short", true,
            body.split("\n").length <= MOST_LINES_OF_A_METHOD));
    }

    /** Rules 8 and 11: no method comes to itself, and none goes too deep. */
    private static void callsAreNotDeep(Map<String, String> bodies) {
        for (String name : bodies.keySet()) {
            Check.due("rule 11, calls of " + name, true, depth(name, bodies, 0) <= DEEPEST_CALLS);
        }
    }

    private static int depth(String name, Map<String, String> bodies, int above) {
        if (above > DEEPEST_CALLS) {
            return 1;
        }
        int deepest = 0;
        Matcher called = Pattern.compile("(\\w+)\\(").matcher(bodies.get(name));
        while (called.find()) {
            if (bodies.containsKey(called.group(1))) {
                deepest = Math.max(deepest, depth(called.group(1), bodies, above + 1));
            }
        }
        return deepest + 1;
    }

    /** Rules 3, 5 and 11. */
    private static void fields(Class<?> of) {
        int own = 0;
        for (Field field : of.getDeclaredFields()) {
            boolean isStatic = Modifier.isStatic(field.getModifiers());
            own += isStatic ? 0 : 1;
            boolean isNumber = field.getType() == int.class;
            boolean isRow = field.getType() == int[].class || field.getType().getEnclosingClass() == MarginDesk.class;
            Check.due("rules 3 and 5, " + field, true, isNumber || isRow && !isStatic);
            Check.due("rule 5, " + field, true, !isStatic || Modifier.isFinal(field.getModifiers()));
        }
        Check.due("rule 11, the fields of " + of, true, own <= MOST_FIELDS);
    }

    /** Rules 1 and 11. */
    private static void methods(Class<?> of) {
        Set<String> faceNames = new TreeSet<>();
        for (Method method : MarginDesk.class.getMethods()) {
            faceNames.add(method.getName());
        }
        for (Method method : of.getDeclaredMethods()) {
            boolean isFace = Modifier.isPublic(method.getModifiers());
            Check.due("rule 1, the name of " + method, isFace, faceNames.contains(method.getName()));
            Check.due("rule 11, " + method, true, method.getParameterCount() <= MOST_PARAMETERS);
        }
    }
}
