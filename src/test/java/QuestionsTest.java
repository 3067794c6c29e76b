/** Promises 12 to 21: what is asked of the character. */
public final class QuestionsTest {

    private static final int NONE = Rulesheet.NONE;
    private static final Check check = new Check("QuestionsTest");

    public static void main(String[] args) {
        levels();
        works();
        ringsOfGifts();
        open();
        places();
        values();
        halves();
        bonuses();
        rings();
        wrongQuestions();
        attacks();
        check.finish();
    }

    private static Rulesheet withLevels(int first, int second, int third) {
        Rulesheet x = new Rulesheet();
        for (int level = 0; level < first; level++) {
            x.takeLevel(0);
        }
        for (int level = 0; level < second; level++) {
            x.takeLevel(1);
        }
        for (int level = 0; level < third; level++) {
            x.takeLevel(2);
        }
        return x;
    }

    private static void levels() {
        Rulesheet x = withLevels(1, 2, 3);
        for (int calling = 0; calling < 3; calling++) {
            check.due("12: level in " + calling, x.level(calling), calling + 1);
        }
    }

    private static void works() {
        Rulesheet x = withLevels(8, 0, 0);
        for (int gift = 7; gift >= 4; gift--) {
            x.takeGift(gift);
        }
        check.due("14: without needs", x.working(), 240);
        x.setNeeds(4, NONE, 0, NONE, 0, 5);
        x.setNeeds(5, NONE, 0, NONE, 0, 6);
        x.setNeeds(6, NONE, 0, NONE, 0, 7);
        check.due("14: a chain", x.working(), 240);
        x.setNeeds(7, 2, 9, NONE, 0, NONE);
        check.due("14: a chain whose end does not work", x.working(), 0);
        x.setScore(2, 9);
        check.due("14: a chain whose end works again", x.working(), 240);
        x.setNeeds(6, NONE, 0, 0, 8, 3);
        check.due("14: a chain that needs a gift that it does not have", x.working(), 128);
        check.due("13: it has them all the same", x.gifts(), 240);
        x.setNeeds(6, NONE, 0, 1, 1, NONE);
        check.due("14: a chain without a level", x.working(), 128);
    }

    private static void ringsOfGifts() {
        Rulesheet x = withLevels(2, 2, 0);
        x.takeGift(0);
        x.takeGift(1);
        x.takeGift(2);
        x.setNeeds(0, NONE, 0, NONE, 0, 0);
        check.due("14: one that needs itself", x.working(), 6);
        x.setNeeds(0, NONE, 0, NONE, 0, 1);
        x.setNeeds(1, NONE, 0, NONE, 0, 0);
        check.due("14: two in a ring", x.working(), 4);
        x.setNeeds(2, NONE, 0, NONE, 0, 1);
        check.due("14: one that needs one in a ring", x.working(), 0);
        check.due("22: rings are not lawful", x.isLawful(), false);
        check.due("23: rings are not lawful", x.isLawfulByOrders(), false);
    }

    private static void open() {
        Rulesheet x = withLevels(0, 1, 0);
        x.setNeeds(0, 1, 9, NONE, 0, NONE);
        x.setNeeds(1, NONE, 0, 1, 2, NONE);
        x.setNeeds(2, NONE, 0, NONE, 0, 3);
        x.bar(4, 1, 0);
        check.due("15: what is open", x.open(), 255 - 1 - 2 - 4 - 16);
        x.takeGift(3);
        check.due("15: nothing without a place", x.open(), 0);
        x.takeLevel(1);
        x.setScore(1, 9);
        check.due("15: what is open then", x.open(), 255 - 8 - 16);
        x.setNeeds(1, 1, 9, 1, 2, 3);
        check.due("15: with all needs met", x.open(), 255 - 8 - 16);
        x.setNeeds(1, 1, 9, 1, 3, 3);
        check.due("15: with one need not met", x.open(), 255 - 2 - 8 - 16);
    }

    private static void places() {
        int[] due = {1, 1, 2, 2, 3, 3, 4, 4, 5};
        Rulesheet x = new Rulesheet();
        for (int level = 0; level <= 8; level++) {
            check.due("16: places with " + level, x.places(), due[level]);
            if (level < 8) {
                x.takeLevel(level % 3);
            }
        }
    }

    private static void values() {
        int[] modifiers = {-1, -1, 0, 0, 1, 1, 2, 2, 3};
        Rulesheet x = withLevels(0, 3, 1);
        x.setValue(1, 5, 2, 1, NONE);
        for (int score = 8; score <= 16; score++) {
            x.setScore(2, score);
            check.due("18: with the score " + score, x.value(1), 5 + modifiers[score - 8] + 3);
        }
        x.takeGift(1);
        x.takeGift(2);
        x.takeGift(3);
        x.setBonus(1, 1, 0, 4);
        x.setBonus(2, 1, 1, 5);
        x.setBonus(3, 1, 3, -2);
        check.due("18: with bonuses of all kinds", x.value(1), 5 + 3 + 3 + 4 + 5 - 2);
        x.setNeeds(2, 0, 9, NONE, 0, NONE);
        check.due("18: without one that does not work", x.value(1), 5 + 3 + 3 + 4 - 2);
    }

    private static void halves() {
        Rulesheet x = new Rulesheet();
        int[][] due = {{-3, -2}, {-2, -1}, {-1, -1}, {0, 0}, {1, 0}, {2, 1}, {3, 1}};
        x.setValue(0, 0, NONE, NONE, 1);
        for (int[] pair : due) {
            x.setValue(1, pair[0], NONE, NONE, NONE);
            check.due("18: half of " + pair[0], x.value(0), pair[1]);
        }
        for (int value = 0; value < 5; value++) {
            x.setValue(value, 1, NONE, NONE, value + 1);
        }
        x.setValue(5, -50, NONE, NONE, NONE);
        check.due("18: a chain of all", x.value(0), 0);
        check.due("18: a chain of five", x.value(1), -2);
        check.due("18: a chain of two", x.value(4), -24);
        x.setValue(5, 50, NONE, NONE, NONE);
        check.due("18: a chain of all, above 0", x.value(0), 3);
        check.due("20: a chain is no ring", x.isRing(0), false);
    }

    private static void bonuses() {
        Rulesheet x = withLevels(8, 0, 0);
        int[] amounts = {3, 7, 7, -2, -9};
        for (int kind = 0; kind < 4; kind++) {
            for (int gift = 0; gift < 5; gift++) {
                x.setBonus(gift, 3, kind, amounts[gift]);
            }
            if (kind == 0) {
                check.due("19: gifts that it does not have", x.bonus(3, 0), 0);
                for (int gift = 0; gift < 5; gift++) {
                    x.takeGift(gift);
                }
            }
            check.due("19: of the kind " + kind, x.bonus(3, kind), kind == 0 ? 6 : -4);
            check.due("19: to another value", x.bonus(2, kind), 0);
        }
        x.setNeeds(1, 0, 9, NONE, 0, NONE);
        check.due("19: an equal one in place of one that does not work", x.bonus(3, 3), -4);
        x.setNeeds(2, 0, 9, NONE, 0, NONE);
        check.due("19: a smaller one in place of those", x.bonus(3, 3), -8);
        x.setNeeds(4, 0, 9, NONE, 0, NONE);
        check.due("19: without one below 0", x.bonus(3, 3), 1);
        x.setBonus(0, 3, 2, 3);
        check.due("19: only one below 0", x.bonus(3, 3), -2);
        check.due("19: only one above 0", x.bonus(3, 2), 3);
    }

    private static void rings() {
        Rulesheet x = new Rulesheet();
        x.setValue(2, 0, NONE, NONE, 2);
        check.due("20: by itself", x.isRing(2), true);
        check.illegalState("18: by itself", () -> x.value(2));
        for (int value = 0; value < 6; value++) {
            x.setValue(value, 0, NONE, NONE, (value + 1) % 6);
        }
        for (int value = 0; value < 6; value++) {
            check.due("20: a ring of all, " + value, x.isRing(value), true);
        }
        x.setValue(3, 0, NONE, NONE, 4);
        x.setValue(4, 0, NONE, NONE, 3);
        x.setValue(5, 0, NONE, NONE, NONE);
        for (int value = 0; value < 5; value++) {
            int ring = value;
            check.due("20: into a ring, " + value, x.isRing(value), true);
            check.illegalState("18: into a ring, " + value, () -> x.value(ring));
        }
        check.due("20: beside a ring", x.isRing(5), false);
        check.due("18: beside a ring", x.value(5), 0);
        x.setValue(4, 8, NONE, NONE, 5);
        check.due("20: no ring any more", x.isRing(0), false);
        check.due("18: no ring any more", x.value(0), 0);
        check.due("18: no ring any more", x.value(3), 4);
    }

    private static void wrongQuestions() {
        Rulesheet x = new Rulesheet();
        for (int wrong : new int[] {-1, 6, Integer.MIN_VALUE, Integer.MAX_VALUE}) {
            check.outOfBounds("18: value " + wrong, () -> x.value(wrong));
            check.outOfBounds("19: value " + wrong, () -> x.bonus(wrong, -1));
            check.outOfBounds("20: value " + wrong, () -> x.isRing(wrong));
        }
        for (int wrong : new int[] {-1, 4, Integer.MIN_VALUE, Integer.MAX_VALUE}) {
            check.illegalArgument("19: kind " + wrong, () -> x.bonus(5, wrong));
        }
        for (int wrong : new int[] {-1, 3, Integer.MIN_VALUE, Integer.MAX_VALUE}) {
            check.outOfBounds("12: calling " + wrong, () -> x.level(wrong));
        }
    }

    /** In eighths, which ints hold, too. */
    private static void attacks() {
        for (int first = 0; first <= 8; first++) {
            for (int second = 0; first + second <= 8; second++) {
                for (int third = 0; first + second + third <= 8; third++) {
                    int eighths = 4 * first + 6 * second + 8 * third;
                    eighths -= first > 0 ? second : 0;
                    eighths -= first + second > 0 ? third : 0;
                    check.due("21: attack " + first + " " + second + " " + third,
                            withLevels(first, second, third).attack(), eighths / 8);
                }
            }
        }
        check.due("21: by the document's words", withLevels(1, 2, 5).attack(), 6);
        check.due("21: all in the third calling", withLevels(0, 0, 8).attack(), 8);
    }
}
