import java.io.IOException;
import java.nio.file.Files;
import java.nio.file.Path;
import java.util.regex.Matcher;
import java.util.regex.Pattern;

/** The rules of LANGUAGE.md that can be seen in the text of the class. */
public final class LanguageTest {
    private static final Path FILE = Path.of("src/main/java/InspectRows.java");

    public static void main(String[] args) throws IOException {
        String text = Files.readString(FILE);
        String code = withoutCommentsAndTexts(text);
        Check.isTrue("characters above 255", text.chars().allMatch(c -> c <= 255));
        // Rules 2, 4, 6, 7 and 13.
        lacks(code, "\\b(package|import)\\b");
        lacks(code, "->|::");
        lacks(code, "\\b(try|catch|finally|synchronized|assert|instanceof|record|native|volatile)\\b");
        lacks(code, "\\b(System|Thread|Random|Object|var)\\b");
        lacks(code, "\\b\\w+Exact\\b");
        lacks(code, "\\b(hashCode|toString|equals|getMessage)\\b");
        lacks(code, "\\b(public|protected)\\s+static\\b");
        lacks(code, "\\bstatic\\s*\\{");
        lacks(code, "\\bwhile\\b");
        throwsAreWritten(text);
        rowsAreMadeOnce(code);
        parametersAreFew(code);
        methodsAreShort(code);
        Check.finish();
    }

    private static String withoutCommentsAndTexts(String text) {
        return text.replaceAll("(?s)/\\*.*?\\*/", "").replaceAll("//[^\n]*", "").replaceAll("\"[^\"\n]*\"", "\"\"");
    }

    private static void lacks(String code, String pattern) {
        Matcher found = Pattern.compile(pattern).matcher(code);
        boolean has = found.find();
        Check.isTrue("the class has '" + (has ? found.group() : "") + "'", !has);
    }

    private static void throwsAreWritten(String text) {
        Matcher found = Pattern.compile("\\bthrow\\b[^;]*;").matcher(text);
        while (found.find()) {
            Check.isTrue("not a written throw: " + found.group(),
                found.group().matches("throw new (IllegalArgument|IndexOutOfBounds|IllegalState|UnsupportedOperation)"
                    + "Exception\\((\"[^\"]*\")?\\);"));
        }
    }

    /** "All memory is rows made once": what is made, but for exceptions, fills a final field. */
    private static void rowsAreMadeOnce(String code) {
        Matcher found = Pattern.compile("(\\w+ = |throw )?new [^;]*;").matcher(code);
        while (found.find()) {
            String made = found.group(1) == null ? "" : found.group(1);
            String name = made.replace(" = ", "");
            boolean isRow = !name.isEmpty() && code.matches("(?s).*private final [\\w\\[\\]]+ " + name.trim() + ";.*");
            Check.isTrue("made outside a row: " + found.group(), made.equals("throw ") || isRow);
        }
    }

    private static void parametersAreFew(String code) {
        Matcher found = Pattern.compile("\\(([^()]*)\\)").matcher(code);
        while (found.find()) {
            Check.isTrue("more than seven in (" + found.group(1) + ")", found.group(1).split(",").length <= 7);
        }
    }

    /** A method begins with a line that ends in "{" and is closed at the same depth of spaces. */
    private static void methodsAreShort(String code) {
        String[] lines = code.split("\n");
        for (int first = 0; first < lines.length; first++) {
            if (!lines[first].matches(" +.*\\).*\\{") || lines[first].matches(" +(if|for|switch|}).*")) {
                continue;
            }
            int depth = lines[first].length() - lines[first].stripLeading().length();
            int last = first;
            while (last < lines.length - 1 && !lines[last].equals(" ".repeat(depth) + "}")) {
                last++;
            }
            Check.isTrue("a method of over sixty lines: " + lines[first], last - first < 60);
        }
    }
}
