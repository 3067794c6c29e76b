import java.io.IOException;
import java.nio.file.Files;
import java.nio.file.Path;
import java.util.List;
import java.util.regex.Matcher;
import java.util.regex.Pattern;

/** What of LANGUAGE.md can be seen in the text of the class; the argument is the class's file. */
public final class LanguageTest {

    private static final Check check = new Check("LanguageTest");
    private static final int LONGEST_METHOD = 60;

    private static final String[] RULED_OUT = {
        "\\bpackage\\b", "->", "::", "\\bfinally\\b", "\\bassert\\b", "\\bsynchronized\\b", "\\bwhile\\s*\\(true\\)",
        "Exact\\b", "\\bNaN\\b", "\\bstatic\\s*\\{", "\\bcatch\\b", "\\bhashCode\\b", "\\btoString\\b",
        "\\bSystem\\.(?!arraycopy)", "\\bObject\\b", "\\bvar\\b", "\\bimport\\s+(?!java\\.util\\.Arrays;)",
        "\"\\s*\\+|\\+\\s*\"", "\\bint\\[\\]\\[\\]\\[\\]",
        "throw\\s+(?!new\\s+(IllegalState|IllegalArgument|IndexOutOfBounds)Exception\\(\"[^\"]*\"\\);)",
    };

    public static void main(String[] args) throws IOException {
        Path file = Path.of(args[0]);
        List<String> lines = Files.readAllLines(file);
        String code = withoutComments(String.join("\n", lines));
        for (String pattern : RULED_OUT) {
            Matcher matcher = Pattern.compile(pattern).matcher(code);
            check.due("the text has " + pattern, matcher.find() ? matcher.group() : "nothing", "nothing");
        }
        for (String line : lines) {
            check.due("line " + line, line.length() <= 120 && line.chars().allMatch(sign -> sign < 128), true);
        }
        methodLengths(lines);
        check.finish();
    }

    private static String withoutComments(String text) {
        return text.replaceAll("(?s)/\\*.*?\\*/", "").replaceAll("//[^\n]*", "");
    }

    /** A method begins where braces open behind a closing parenthesis, and ends at the same indent. */
    private static void methodLengths(List<String> lines) {
        int methods = 0;
        for (int at = 0; at < lines.size(); at++) {
            String line = lines.get(at);
            String indent = line.substring(0, line.length() - line.stripLeading().length());
            boolean begins = line.matches("( {4}| {8})(public|private|static|void|boolean|int|[A-Z]).*\\(.*");
            if (begins && !line.endsWith(";")) {
                int end = at;
                while (end < lines.size() && !lines.get(end).equals(indent + "}")) {
                    end++;
                }
                methods++;
                check.due("the method at line " + (at + 1) + " is short", end - at <= LONGEST_METHOD, true);
            }
        }
        check.due("methods were found", methods > 40, true);
    }
}
