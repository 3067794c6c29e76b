import java.util.ArrayList;
import java.util.HashMap;
import java.util.List;
import java.util.Map;

/** Looks at what a call leaves behind that changes nothing: no answer may differ, now or later. */
final class Traces {

    /** All that can be asked. */
    static final List<String> QUESTIONS = questions();

    /** What can be done afterwards; each part is done to an object of its own, as it changes the object. */
    private static final List<List<String>> DEEDS = deeds();

    /** What is done and answered without the call, by the calls ahead of it. */
    private static final Map<String, String> WITHOUT = new HashMap<>();

    private Traces() {
    }

    /** What differs by the call; "nothing" if nothing does. */
    static String leavesBehind(List<String> ahead, String call) {
        Run run = new Run();
        run.answers(ahead);
        String before = run.answers(QUESTIONS);
        run.answer(call);
        String behind = run.answers(QUESTIONS);
        if (!behind.equals(before)) {
            return difference(behind, before);
        }
        String without = WITHOUT.computeIfAbsent(ahead.toString(), key -> done(ahead));
        List<String> with = new ArrayList<>(ahead);
        with.add(call);
        return difference(done(with), without);
    }

    private static String done(List<String> ahead) {
        StringBuilder text = new StringBuilder();
        for (List<String> deeds : DEEDS) {
            Run run = new Run();
            run.answers(ahead);
            text.append(run.answers(deeds));
        }
        return text.toString();
    }

    private static String difference(String with, String without) {
        String[] here = with.split("\n");
        String[] there = without.split("\n");
        for (int line = 0; line < here.length && line < there.length; line++) {
            if (!here[line].equals(there[line])) {
                return here[line] + " in place of " + there[line];
            }
        }
        return "nothing";
    }

    private static List<String> values() {
        List<String> calls = new ArrayList<>();
        for (int value = 0; value < 6; value++) {
            calls.add("value " + value);
        }
        return calls;
    }

    private static List<String> bonuses() {
        List<String> calls = new ArrayList<>();
        for (int value = 0; value < 6; value++) {
            for (int kind = 0; kind < 4; kind++) {
                calls.add("bonus " + value + " " + kind);
            }
        }
        return calls;
    }

    private static List<String> questions() {
        List<String> calls = Run.parted("level 0; level 1; level 2; gifts; working; open; places; points; attack;"
                + "isRing 0; isRing 1; isRing 2; isRing 3; isRing 4; isRing 5; isLawful; isLawfulByOrders");
        calls.addAll(values());
        calls.addAll(bonuses());
        for (int step = 0; step <= 13; step++) {
            calls.add("stepAt " + step);
        }
        calls.addAll(Run.parted("stepAt 0; isLawfulByOrders; stepAt 6; isLawful; stepAt 6; isLawfulByOrders"));
        return calls;
    }

    private static List<List<String>> deeds() {
        return List.of(losses(), scores(), levels(), giftByGift(), exchanges());
    }

    /** The order of the levels, which no question tells. */
    private static List<String> losses() {
        List<String> calls = new ArrayList<>();
        for (int level = 0; level <= 8; level++) {
            calls.addAll(Run.parted("loseLevel; working; gifts; open; isLawful"));
        }
        calls.addAll(Run.parted("clear; clear"));
        return calls;
    }

    /** The scores, and the rules that go by them. */
    private static List<String> scores() {
        List<String> calls = new ArrayList<>();
        for (int ability = 0; ability < 4; ability++) {
            for (int score = 16; score >= 8; score--) {
                calls.addAll(Run.parted("setScore " + ability + " " + score + "; working; open"));
                calls.addAll(values());
            }
        }
        return calls;
    }

    /** The rules that go by levels. */
    private static List<String> levels() {
        List<String> calls = new ArrayList<>();
        for (int calling = 0; calling < 3; calling++) {
            calls.add("clear");
            for (int level = 1; level <= 8; level++) {
                calls.addAll(Run.parted("takeLevel " + calling + "; open"));
                calls.addAll(values());
            }
        }
        return calls;
    }

    /** The rules that go by gifts. */
    private static List<String> giftByGift() {
        List<String> calls = new ArrayList<>();
        for (int gift = 0; gift < 8; gift++) {
            calls.addAll(Run.parted("clear; takeGift " + gift + "; 2x takeLevel 1; 3x takeLevel 0; 3x takeLevel 2"));
            calls.addAll(Run.parted("takeGift " + gift + "; working; open"));
            calls.addAll(bonuses());
        }
        return calls;
    }

    private static List<String> exchanges() {
        List<String> calls = new ArrayList<>();
        for (int gift = 0; gift < 8; gift++) {
            for (int other = 0; other < 8; other++) {
                calls.add("exchange " + gift + " " + other);
            }
            calls.add("gifts");
        }
        return calls;
    }
}
