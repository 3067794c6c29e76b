import java.util.ArrayList;
import java.util.HashSet;
import java.util.List;
import java.util.Set;
import java.util.TreeSet;

/** The document's words once more, written for plainness alone, to compare the class with. */
final class Model {

    private static final int NONE = -1;

    private static final class Gift {
        int ability = NONE;
        int score = 0;
        int calling = NONE;
        int level = 0;
        int other = NONE;
        int barCalling = NONE;
        int barLevel = 0;
        int value = NONE;
        int kind = 0;
        int amount = 0;
    }

    private static final class Value {
        int base = 0;
        int ability = NONE;
        int calling = NONE;
        int other = NONE;
    }

    private final List<Gift> rules = new ArrayList<>();
    private final List<Value> values = new ArrayList<>();
    private final int[] scores = {8, 8, 8, 8};
    private final List<Integer> levels = new ArrayList<>();
    private Set<Integer> held = new TreeSet<>();

    Model() {
        for (int gift = 0; gift < 8; gift++) {
            rules.add(new Gift());
        }
        for (int value = 0; value < 6; value++) {
            values.add(new Value());
        }
    }

    private static void index(boolean fine) {
        if (!fine) {
            throw new IndexOutOfBoundsException();
        }
    }

    private static void argument(boolean fine) {
        if (!fine) {
            throw new IllegalArgumentException();
        }
    }

    private static void state(boolean fine) {
        if (!fine) {
            throw new IllegalStateException();
        }
    }

    private static boolean in(int number, int least, int greatest) {
        return least <= number && number <= greatest;
    }

    void setNeeds(int gift, int ability, int score, int calling, int level, int other) {
        index(in(gift, 0, 7) && in(ability, -1, 3) && in(calling, -1, 2) && in(other, -1, 7));
        argument((ability == NONE || in(score, 8, 16)) && (calling == NONE || in(level, 1, 8)));
        Gift rule = rules.get(gift);
        rule.ability = ability;
        rule.score = score;
        rule.calling = calling;
        rule.level = level;
        rule.other = other;
    }

    void bar(int gift, int calling, int level) {
        index(in(gift, 0, 7) && in(calling, -1, 2));
        argument(calling == NONE || in(level, 0, 7));
        rules.get(gift).barCalling = calling;
        rules.get(gift).barLevel = level;
    }

    void setBonus(int gift, int value, int kind, int amount) {
        index(in(gift, 0, 7) && in(value, -1, 5));
        argument(in(kind, 0, 3) && in(amount, -9, 9));
        rules.get(gift).value = value;
        rules.get(gift).kind = kind;
        rules.get(gift).amount = amount;
    }

    void setValue(int value, int base, int ability, int calling, int other) {
        index(in(value, 0, 5) && in(ability, -1, 3) && in(calling, -1, 2) && in(other, -1, 5));
        argument(in(base, -50, 50));
        values.get(value).base = base;
        values.get(value).ability = ability;
        values.get(value).calling = calling;
        values.get(value).other = other;
    }

    int setScore(int ability, int score) {
        index(in(ability, 0, 3));
        argument(in(score, 8, 16));
        int before = scores[ability];
        scores[ability] = score;
        int left = points();
        if (left < 0) {
            scores[ability] = before;
        }
        state(left >= 0);
        return left;
    }

    int takeLevel(int calling) {
        index(in(calling, 0, 2));
        state(levels.size() < 8);
        levels.add(calling);
        return levels.size();
    }

    int takeGift(int gift) {
        index(in(gift, 0, 7));
        state(mayTake(gift, levels, held));
        held.add(gift);
        return held.size();
    }

    int loseLevel() {
        state(!levels.isEmpty());
        return levels.remove(levels.size() - 1);
    }

    int exchange(int gift, int other) {
        index(in(gift, 0, 7) && in(other, 0, 7));
        state(held.contains(gift) && !held.contains(other));
        Set<Integer> then = new TreeSet<>(held);
        then.remove(gift);
        then.add(other);
        state(firstOrder(then) != null);
        Set<Integer> fallen = workingOf(held);
        fallen.remove(gift);
        fallen.removeAll(workingOf(then));
        held = then;
        return fallen.size();
    }

    int clear() {
        int had = levels.size() + held.size();
        levels.clear();
        held.clear();
        return had;
    }

    int level(int calling) {
        index(in(calling, 0, 2));
        return count(levels, calling);
    }

    int gifts() {
        return bits(held);
    }

    int working() {
        return bits(workingOf(held));
    }

    int open() {
        Set<Integer> open = new TreeSet<>();
        for (int gift = 0; gift < 8; gift++) {
            if (mayTake(gift, levels, held)) {
                open.add(gift);
            }
        }
        return bits(open);
    }

    int places() {
        return 1 + levels.size() / 2;
    }

    int points() {
        int left = 20;
        for (int score : scores) {
            for (int point = 9; point <= score; point++) {
                left -= point > 12 ? 2 : 1;
            }
        }
        return left;
    }

    int value(int value) {
        index(in(value, 0, 5));
        state(!isRing(value));
        Value rule = values.get(value);
        double sum = rule.base;
        if (rule.ability != NONE) {
            sum += Math.floor((scores[rule.ability] - 10) / 2.0);
        }
        if (rule.calling != NONE) {
            sum += level(rule.calling);
        }
        if (rule.other != NONE) {
            sum += Math.floor(value(rule.other) / 2.0);
        }
        for (int kind = 0; kind < 4; kind++) {
            sum += bonus(value, kind);
        }
        return (int) sum;
    }

    int bonus(int value, int kind) {
        index(in(value, 0, 5));
        argument(in(kind, 0, 3));
        List<Integer> counting = new ArrayList<>();
        int greatest = 0;
        for (int gift : workingOf(held)) {
            Gift rule = rules.get(gift);
            if (rule.value == value && rule.kind == kind) {
                if (kind == 0 || rule.amount < 0) {
                    counting.add(rule.amount);
                } else if (rule.amount > greatest) {
                    greatest = rule.amount;
                }
            }
        }
        counting.add(greatest);
        return counting.stream().mapToInt(Integer::intValue).sum();
    }

    boolean isRing(int value) {
        index(in(value, 0, 5));
        Set<Integer> seen = new HashSet<>();
        int at = value;
        while (at != NONE) {
            if (!seen.add(at)) {
                return true;
            }
            at = values.get(at).other;
        }
        return false;
    }

    int attack() {
        float sum = 0;
        for (int calling = 0; calling < 3; calling++) {
            sum += level(calling) * (calling + 2) / 4f;
            for (int lower = 0; lower < calling; lower++) {
                if (level(lower) > 0) {
                    sum -= 0.125f * level(calling);
                    break;
                }
            }
        }
        return (int) sum;
    }

    boolean isLawful() {
        return firstOrder(held) != null;
    }

    boolean isLawfulByOrders() {
        state(levels.size() + held.size() <= 8);
        return isLawful();
    }

    int stepAt(int step) {
        index(step >= 0);
        List<Integer> order = firstOrder(held);
        state(order != null);
        return step < order.size() ? order.get(step) : NONE;
    }

    private static int count(List<Integer> list, int wanted) {
        int count = 0;
        for (int element : list) {
            count += element == wanted ? 1 : 0;
        }
        return count;
    }

    private static int bits(Set<Integer> set) {
        int bits = 0;
        for (int element : set) {
            bits += 1 << element;
        }
        return bits;
    }

    private boolean meets(Gift rule, List<Integer> at) {
        return (rule.ability == NONE || scores[rule.ability] >= rule.score)
                && (rule.calling == NONE || count(at, rule.calling) >= rule.level);
    }

    private boolean mayTake(int gift, List<Integer> at, Set<Integer> has) {
        Gift rule = rules.get(gift);
        return !has.contains(gift) && has.size() < 1 + at.size() / 2 && meets(rule, at)
                && (rule.other == NONE || has.contains(rule.other))
                && (rule.barCalling == NONE || count(at, rule.barCalling) <= rule.barLevel);
    }

    /** By following what each gift needs, where the class grows a set. */
    private Set<Integer> workingOf(Set<Integer> has) {
        Set<Integer> works = new TreeSet<>();
        for (int gift : has) {
            Set<Integer> seen = new HashSet<>();
            int at = gift;
            boolean good = true;
            while (good && at != NONE) {
                good = has.contains(at) && meets(rules.get(at), levels) && seen.add(at);
                at = rules.get(at).other;
            }
            if (good) {
                works.add(gift);
            }
        }
        return works;
    }

    /** Tries the orders from the first one on, and turns back where it has failed before; null without one. */
    private List<Integer> firstOrder(Set<Integer> goal) {
        List<Integer> order = new ArrayList<>();
        boolean found = goOn(goal, new ArrayList<>(), new TreeSet<>(), order, new HashSet<>());
        return found ? order : null;
    }

    private boolean goOn(Set<Integer> goal, List<Integer> at, Set<Integer> has, List<Integer> order,
            Set<String> dead) {
        if (at.size() == levels.size() && has.equals(goal)) {
            return true;
        }
        String stage = count(at, 0) + " " + count(at, 1) + " " + count(at, 2) + " " + has;
        if (dead.contains(stage)) {
            return false;
        }
        for (int calling = 0; calling < 3; calling++) {
            if (count(at, calling) < count(levels, calling)) {
                at.add(calling);
                order.add(calling);
                if (goOn(goal, at, has, order, dead)) {
                    return true;
                }
                order.remove(order.size() - 1);
                at.remove(at.size() - 1);
            }
        }
        for (int gift : goal) {
            if (mayTake(gift, at, has)) {
                has.add(gift);
                order.add(10 + gift);
                if (goOn(goal, at, has, order, dead)) {
                    return true;
                }
                order.remove(order.size() - 1);
                has.remove(gift);
            }
        }
        dead.add(stage);
        return false;
    }
}
