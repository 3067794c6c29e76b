import java.io.IOException;
import java.lang.reflect.Method;
import java.nio.file.Files;
import java.nio.file.Path;
import java.util.ArrayList;
import java.util.HashMap;
import java.util.List;
import java.util.Map;
import java.util.Set;
import java.util.TreeMap;
import java.util.TreeSet;
import java.util.regex.Matcher;
import java.util.regex.Pattern;

/** The calls that README.md shows answer as it says, and its tables name each call with what it throws. */
public final class ReadmeTest {

    private static final Check check = new Check("ReadmeTest");

    private static final Map<String, String> KINDS = Map.of("IndexOutOfBoundsException", "index",
            "IllegalArgumentException", "argument", "IllegalStateException", "state");

    private static final Pattern MAKING = Pattern.compile("Rulesheet (\\w+) = new Rulesheet\\(\\);");
    private static final Pattern CALL = Pattern.compile("(\\w+)\\.(\\w+)\\((.*?)\\); +// (.+)");
    private static final Pattern ANSWER = Pattern.compile("answers (true|false|-?\\d+)(:.*|, as .*)?");
    private static final Pattern THROW = Pattern.compile("throws (\\w+)(:.*)?");
    private static final Pattern ROW = Pattern.compile("\\| `(\\w+\\(.*?\\))` \\| (.+) \\| (.+) \\|");
    private static final Pattern EXCEPTION = Pattern.compile("\\w+Exception");

    /** What the document declares: each name with its parameters, and with what is thrown, in its order. */
    private static final Map<String, String> PARAMETERS = new TreeMap<>();
    private static final Map<String, String> THROWN = new TreeMap<>();

    public static void main(String[] args) throws IOException {
        List<String> lines = Files.readAllLines(Path.of("README.md"));
        declared(Files.readString(Path.of("../shared/DOC.md")));
        shownCalls(lines);
        tables(lines);
        use(String.join(" ", lines));
        tests(lines);
        check.finish();
    }

    private static void declared(String document) {
        Matcher matcher = Pattern.compile("    public (?:void|int|boolean) (\\w+)\\((.*?)\\)(.*?);").matcher(document);
        while (matcher.find()) {
            PARAMETERS.put(matcher.group(1), matcher.group(2).replace("int ", ""));
            THROWN.put(matcher.group(1), exceptions(matcher.group(3)));
        }
        Set<String> names = new TreeSet<>();
        for (Method method : Rulesheet.class.getMethods()) {
            if (method.getDeclaringClass() == Rulesheet.class) {
                names.add(method.getName());
            }
        }
        check.due("the document declares", PARAMETERS.keySet(), names);
    }

    private static String exceptions(String text) {
        List<String> found = new ArrayList<>();
        Matcher matcher = EXCEPTION.matcher(text);
        while (matcher.find()) {
            found.add(matcher.group());
        }
        return String.join(" ", found);
    }

    private static void shownCalls(List<String> lines) {
        Map<String, Run> objects = new HashMap<>();
        Map<String, Set<String>> shown = new TreeMap<>();
        boolean inBlock = false;
        for (String line : lines) {
            if (line.startsWith("```")) {
                inBlock = line.equals("```java");
                continue;
            }
            Matcher making = MAKING.matcher(line);
            if (inBlock && making.matches()) {
                objects.put(making.group(1), new Run());
            } else if (inBlock) {
                shownCall(line, objects, shown);
            }
        }
        for (String name : PARAMETERS.keySet()) {
            Set<String> all = new TreeSet<>(Set.of("fine"));
            for (String exception : THROWN.get(name).split(" ")) {
                if (!exception.isEmpty()) {
                    all.add(KINDS.get(exception));
                }
            }
            check.due("what README.md shows of " + name, shown.get(name), all);
        }
    }

    private static void shownCall(String line, Map<String, Run> objects, Map<String, Set<String>> shown) {
        Matcher call = CALL.matcher(line);
        if (!call.matches() || !objects.containsKey(call.group(1)) || !PARAMETERS.containsKey(call.group(2))) {
            check.due("README.md: " + line, "not understood", "a call");
            return;
        }
        String words = call.group(2) + " " + call.group(3).replace("Rulesheet.", "").replace(",", "");
        String answer = objects.get(call.group(1)).answer(words.strip());
        String due = said(call.group(4));
        check.due("README.md: " + line, answer, due);
        shown.computeIfAbsent(call.group(2), name -> new TreeSet<>()).add(KINDS.containsValue(due) ? due : "fine");
    }

    /** A remark that tells neither an answer nor an exception belongs to a call that answers nothing. */
    private static String said(String remark) {
        Matcher answer = ANSWER.matcher(remark);
        if (answer.matches()) {
            return answer.group(1);
        }
        Matcher thrown = THROW.matcher(remark);
        if (thrown.matches()) {
            return KINDS.getOrDefault(thrown.group(1), "an exception that the document knows");
        }
        return remark.startsWith("answers") || remark.startsWith("throws") ? "what can be read" : "-";
    }

    private static void tables(List<String> lines) {
        Set<String> calls = new TreeSet<>();
        for (String line : lines) {
            Matcher row = ROW.matcher(line);
            if (row.matches()) {
                String name = row.group(1).substring(0, row.group(1).indexOf('('));
                check.due("rows for " + name, calls.add(name) ? "one" : "more", "one");
                check.due("the call in the table", row.group(1), name + "(" + PARAMETERS.get(name) + ")");
                check.due("what " + name + " throws by the table", exceptions(row.group(3)), THROWN.get(name));
                check.due("nothing is thrown by " + name, row.group(3).equals("nothing"), THROWN.get(name).isEmpty());
            }
        }
        check.due("calls with a row", calls, PARAMETERS.keySet());
    }

    private static void use(String text) {
        for (String told : new String[] {"at most 512 calls", "A call that throws changes nothing", ".ci/run",
            "javac -d", "Rulesheet.NONE", "### Rules", "### The character", "### Questions", "### Orders"}) {
            check.due("README.md tells of " + told, text.contains(told), true);
        }
        int index = text.indexOf("- `IndexOutOfBoundsException`");
        int argument = text.indexOf("- `IllegalArgumentException`");
        int state = text.indexOf("- `IllegalStateException`");
        check.due("the exceptions in their order", 0 < index && index < argument && argument < state, true);
    }

    /** Each test program has its row, and none has one that is not there. */
    private static void tests(List<String> lines) throws IOException {
        Set<String> rows = new TreeSet<>();
        for (String line : lines) {
            if (line.matches("\\| \\w+Test(, \\w+Test)* \\| .*")) {
                rows.addAll(List.of(line.substring(2, line.indexOf(" |")).split(", ")));
            }
        }
        Set<String> files = new TreeSet<>();
        try (var paths = Files.list(Path.of("src/test/java"))) {
            paths.map(path -> path.getFileName().toString()).filter(name -> name.endsWith("Test.java"))
                    .forEach(name -> files.add(name.substring(0, name.length() - ".java".length())));
        }
        check.due("the tests that README.md names", rows, files);
    }
}
