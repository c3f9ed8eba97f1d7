import java.io.IOException;
import java.nio.file.Files;
import java.nio.file.Path;
import java.util.regex.Matcher;
import java.util.regex.Pattern;

/** The rules of LANGUAGE.md that can be seen in the text of the class. */
public final class LanguageTest {
    private static final String EXCEPTIONS = "(IllegalState|IllegalArgument|IndexOutOfBounds|Arithmetic"
        + "|UnsupportedOperation|NoSuchElement|Runtime)Exception";
    private static final Path FILE = Path.of("src/main/java/InspectRows.java");

    public static void main(String[] args) throws IOException {
        String text = Files.readString(FILE);
        String code = withoutComments(text).replaceAll("\"[^\"\n]*\"", "\"\"");
        Check.isTrue("characters above 255", text.chars().allMatch(c -> c <= 255));
        // Rules 1 and 2.
        lacks(code, "\\bpackage\\b");
        lacks(withoutSwitchArrows(code), "->|::");
        // Rule 4.
        lacks(code, "\\bimport\\b(?! java\\.util\\.(ArrayList|List|Arrays|Iterator|NoSuchElementException);)");
        lacks(code, "\\w+Exact\\b");
        lacks(code, "\\bSystem\\.(?!arraycopy\\b)");
        // Rule 5.
        lacks(code, "\\bstatic\\s*\\{");
        // Rule 6.
        lacks(code, "\\b(finally|synchronized|assert)\\b|\\btry\\s*\\(");
        lacks(code, "\\b(getMessage|getCause|printStackTrace|hashCode)\\b");
        lacks(code, "\\bextends\\s+\\w*(Exception|Error|Throwable)\\b");
        lacks(code, "\\bcatch\\s*\\(\\s*(final\\s+)?(?!" + EXCEPTIONS + "\\b)\\w+");
        // Rule 13.
        lacks(code, "\\b(Thread|Random|Runtime|Clock|Instant|File|Files|Process|native|volatile)\\b");
        throwsAreWritten(withoutComments(text));
        rowsAreMadeOnce(code);
        parametersAreFew(code);
        methodsAreShort(code);
        Check.finish();
    }

    private static String withoutComments(String text) {
        return text.replaceAll("(?s)/\\*.*?\\*/", "").replaceAll("//[^\n]*", "");
    }

    private static String withoutSwitchArrows(String code) {
        return code.replaceAll("\\b(case [^:;{}]*?|default\\s*)->", "");
    }

    private static void lacks(String code, String pattern) {
        Matcher found = Pattern.compile(pattern).matcher(code);
        boolean has = found.find();
        Check.isTrue("the class has '" + (has ? found.group() : "") + "'", !has);
    }

    private static void throwsAreWritten(String text) {
        Matcher found = Pattern.compile("\\bthrow\\b[^;]*;").matcher(text);
        while (found.find()) {
            Check.isTrue("not a written throw: " + found.group(),
                found.group().matches("throw new " + EXCEPTIONS + "\\((\"[^\"]*\")?\\);"));
        }
    }

    /** "All memory is rows made once": what is made, but for exceptions, fills a final field. */
    private static void rowsAreMadeOnce(String code) {
        Matcher found = Pattern.compile("(\\w+) *= *new\\b[^;]*;|(\\bthrow +)?\\bnew\\b[^;]*;").matcher(code);
        while (found.find()) {
            boolean isRow = found.group(1) != null
                && Pattern.compile("\\bfinal [\\w\\[\\]]+ " + found.group(1) + "\\b").matcher(code).find();
            Check.isTrue("made outside a row: " + found.group(), found.group(2) != null || isRow);
        }
    }

    private static void parametersAreFew(String code) {
        Matcher found = Pattern.compile("\\(([^()]*)\\)").matcher(code);
        while (found.find()) {
            Check.isTrue("more than seven in (" + found.group(1) + ")", found.group(1).split(",").length <= 7);
        }
    }

    /** A method begins with a line that ends in "{" and is closed at the same depth of spaces. */
    private static void methodsAreShort(String code) {
        String[] lines = code.split("\n");
        for (int first = 0; first < lines.length; first++) {
            if (!lines[first].matches(" +.*\\).*\\{") || lines[first].matches(" +(if|for|switch|}).*")) {
                continue;
            }
            int depth = lines[first].length() - lines[first].stripLeading().length();
            int last = first;
            while (last < lines.length - 1 && !lines[last].equals(" ".repeat(depth) + "}")) {
                last++;
            }
            Check.isTrue("a method of over sixty lines: " + lines[first], last - first < 60);
        }
    }
}
