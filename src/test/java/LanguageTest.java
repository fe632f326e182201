import java.io.IOException;
import java.nio.file.Files;
import java.nio.file.Path;
import java.util.regex.Matcher;
import java.util.regex.Pattern;

/** Those rules of ../shared/LANGUAGE.md that can be seen in the text of the class. Run it from the project's root. */
final class LanguageTest {
    private static final String[][] RULED_OUT = {
        {"rule 1", "^package "},
        {"rule 4", "^import (?!java\\.util\\.Arrays;)"},
        {"rule 5", "static \\{"},
        {"rule 6", "\\b(finally|synchronized|assert|catch|try)\\b"},
        {"rule 6", "throw new (?!(IllegalState|IllegalArgument|IndexOutOfBounds)Exception\\(\"[^\"]*\"\\);)"},
        {"rule 6", "\\b(equals|hashCode|toString)\\("},
        {"rule 3, no lambda", "->|::"},
        {"rule 4, none of the Exact functions", "Exact\\("},
        {"rule 9", "while \\(true\\)|for \\(;;\\)"},
        {"rule 10", "\" \\+|\\+ \""},
        {"rule 13", "\\b(System\\.(?!arraycopy)|Random|Thread|File|nanoTime|currentTimeMillis)"},
        {"its signs", "[^\\x20-\\x7e\\n]"},
    };
    private static final int MOST_LINES_OF_A_METHOD = 60;
    private static final int MOST_CLASSES = 12;

    public static void main(String[] args) throws IOException {
        String source = Files.readString(Path.of("src/main/java/MarginDesk.java"));
        for (String[] rule : RULED_OUT) {
            Matcher found = Pattern.compile(rule[1], Pattern.MULTILINE).matcher(source);
            while (found.find()) {
                Check.fail(rule[0] + ": " + found.group() + " at sign " + found.start());
            }
        }
        methodsAreShort(source);
        int classes = source.split("\\bclass \\w+ \\{", -1).length - 1;
        Check.due("few classes", true, classes > 0 && classes <= MOST_CLASSES);
        Check.end("LanguageTest");
    }

    private static void methodsAreShort(String source) {
        Matcher method = Pattern.compile("^( {4}| {8})\\S[^\\n]*\\([^\\n]*\\)?[^;]*?\\{\\n(.*?)^\\1\\}$",
            Pattern.MULTILINE | Pattern.DOTALL).matcher(source);
        int methods = 0;
        while (method.find()) {
            methods++;
            int lines = method.group(2).split("\n").length;
            if (lines > MOST_LINES_OF_A_METHOD) {
                Check.fail("rule 11: " + lines + " lines at sign " + method.start());
            }
        }
        Check.due("methods were seen", true, methods > 40);
    }
}
