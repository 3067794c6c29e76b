import java.io.IOException;
import java.nio.file.Files;
import java.nio.file.Path;
import java.util.ArrayList;
import java.util.List;
import java.util.regex.Matcher;
import java.util.regex.Pattern;
import java.util.stream.Collectors;

/** That the class is declared as the document says, and that a test quotes each of its sentences that can be tested. */
public final class DocumentTest {

    private static final Check check = new Check("DocumentTest");

    /** A sentence, and the promise that it belongs to; 0 if it stands ahead of them. */
    private record Quote(int promise, String text) {
    }

    /** What joins quoted parts of a sentence, or is a heading of a passage. */
    private static final String JOINTS = "[\\s.;,:-]*((and|like this|Abilities|Gifts|Orders|Bonuses|Values)[\\s.;,:-]*)*";

    /** No test can tell whether these hold: they leave something free. */
    private static final List<String> FREE = List.of("what later calls answer is free.",
            "How the state is held inside the object is free, as are the speed of each call, the text of toString and the"
                    + " behaviour of equals and hashCode.",
            "Use of one object from several threads at once is not promised to be safe.",
            "and nothing about an object after its 512th call.");

    public static void main(String[] args) throws IOException {
        String document = Files.readString(Path.of("../shared/DOC.md"));
        String code = Files.readString(Path.of(args[0]));
        constants(document, code);
        declarations(document, code);
        groups(document, code);
        sentences(document, quotes());
        check.finish();
    }

    private static List<String> found(String pattern, String text) {
        List<String> found = new ArrayList<>();
        Matcher matcher = Pattern.compile(pattern).matcher(text);
        while (matcher.find()) {
            found.add(matcher.group(1));
        }
        return found;
    }

    private static String oneLined(String text) {
        return text.replaceAll("\\s+", " ");
    }

    private static void constants(String document, String code) {
        List<String> declared = found("(public static final [^;]*;)", document);
        check.due("the constants of the document", declared, List.of("public static final int NONE = -1;"));
        check.due("the constants of the class", found("(public static [^;(]*;)", code), declared);
    }

    /** In the interface as it is declared, in the promise's own line, and in the class. */
    private static void declarations(String document, String code) {
        List<String> face = found("    (public [^;]*\\([^;]*);", document);
        check.due("how many calls are declared", face.size(), 24);
        String lines = oneLined(code);
        String[] promises = document.split("## Promise \\d+: ");
        check.due("how many promises there are", promises.length - 1, face.size());
        for (int at = 0; at < face.size() && at + 1 < promises.length; at++) {
            String call = face.get(at);
            check.due("the class has " + call, lines.contains(call + " {"), true);
            check.due("promise " + (at + 1), found("`([^`]*)`: ", promises[at + 1]).get(0), call.substring("public ".length()));
        }
        check.due("the calls of the class", found("public (?:void |int |boolean )?(\\w+)\\(", code),
                found("public (?:void |int |boolean )?(\\w+)\\(", document));
    }

    /** The remark "---- rules" stands ahead of those calls alone that the document names with it. */
    private static void groups(String document, String code) {
        Matcher told = Pattern.compile("Ahead of the calls (.*) the interface says: (---- .*)\\.").matcher(document);
        int groups = 0;
        while (told.find()) {
            groups++;
            String remark = "// " + told.group(2) + "\n";
            int start = code.indexOf(remark);
            check.due("the class has the remark " + told.group(2), start >= 0, true);
            String behind = start < 0 ? "" : code.substring(start + remark.length());
            int end = behind.indexOf("// ----");
            check.due("the calls behind " + told.group(2), found("public \\w+ (\\w+)\\(", behind.substring(0, Math.max(0, end))),
                    found("`(\\w+)`", told.group(1)));
        }
        check.due("how many groups there are", groups, 4);
    }

    /** The sentences that the tests quote; "5: Sets what a value is made of." belongs to promise 5. */
    private static List<Quote> quotes() throws IOException {
        List<Path> files;
        try (var paths = Files.list(Path.of("src/test/java"))) {
            files = paths.sorted().collect(Collectors.toList());
        }
        List<Quote> quotes = new ArrayList<>();
        for (Path file : files) {
            String code = Files.readString(file);
            for (String argument : found("check\\.sentence\\(((?:\\s*\\+?\\s*\"[^\"]*\")+)\\);", code)) {
                String text = String.join("", found("\"([^\"]*)\"", argument));
                boolean numbered = text.matches("\\d+: .*");
                int colon = text.indexOf(':');
                quotes.add(numbered ? new Quote(Integer.parseInt(text.substring(0, colon)), text.substring(colon + 2))
                        : new Quote(0, text));
            }
        }
        return quotes;
    }

    private static void sentences(String document, List<Quote> quotes) {
        int seen = 0;
        for (String section : document.split("(?m)^#+ ")) {
            String title = section.lines().findFirst().orElse("");
            List<String> number = found("^Promise (\\d+): ", title);
            int promise = number.isEmpty() ? 0 : Integer.parseInt(number.get(0));
            if (!section.isBlank() && !title.equals("Rulesheet") && !title.equals("The public face")) {
                seen++;
                String text = section.substring(title.length());
                check.due("what no test quotes of '" + title + "'", unquoted(text, promise, quotes), "nothing");
            }
        }
        check.due("how many sections were looked at", seen, 27);
        String all = oneLined(document);
        for (Quote quote : quotes) {
            check.due("the document has: " + quote.text, all.contains(quote.text), true);
        }
    }

    /** What is declared, and what the interface says, is looked at above. */
    private static String unquoted(String section, int promise, List<Quote> quotes) {
        String left = section.replaceAll("(?m)^`[^`]*\\)[^`]*`: ", "").replaceAll("(?m)^Ahead of the calls .*$", "");
        boolean[] quoted = new boolean[left.length()];
        for (String free : FREE) {
            mark(left, free, quoted);
        }
        for (Quote quote : quotes) {
            if (quote.promise == promise) {
                mark(left, quote.text, quoted);
            }
        }
        StringBuilder rest = new StringBuilder();
        for (int at = 0; at < left.length(); at++) {
            rest.append(quoted[at] ? '.' : left.charAt(at));
        }
        String found = oneLined(rest.toString());
        return found.matches(JOINTS) ? "nothing" : found.replaceAll("\\.{3,}", " .. ");
    }

    private static void mark(String text, String part, boolean[] marks) {
        for (int at = text.indexOf(part); at >= 0; at = text.indexOf(part, at + 1)) {
            for (int sign = at; sign < at + part.length(); sign++) {
                marks[sign] = true;
            }
        }
    }
}
