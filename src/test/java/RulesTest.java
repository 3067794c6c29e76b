/** Promises 1 to 5: a new object, and the rules that are laid. */
public final class RulesTest {

    private static final int NONE = Rulesheet.NONE;
    private static final Check check = new Check("RulesTest");

    public static void main(String[] args) {
        newObject();
        needsOfScores();
        needsOfLevels();
        needsOfGifts();
        wrongNeeds();
        bars();
        wrongBars();
        bonuses();
        wrongBonuses();
        values();
        wrongValues();
        check.finish();
    }

    private static void newObject() {
        Rulesheet x = new Rulesheet();
        check.due("1: NONE", Rulesheet.NONE, -1);
        check.due("1: a new object", Snapshot.of(x),
                "points 20 places 1 gifts 0 working 0 open 255 attack 0 levels 0 0 0"
                + " value 0 bonuses 0 0 0 0".repeat(6) + " order ");
        for (int ability = 0; ability < 4; ability++) {
            x.setValue(0, 0, ability, NONE, NONE);
            check.due("1: the modifier of the score 8 of " + ability, x.value(0), -1);
        }
        Rulesheet other = new Rulesheet();
        x.setScore(0, 16);
        for (int calling = 0; calling < 3; calling++) {
            x.takeLevel(calling);
        }
        for (int value = 1; value < 6; value++) {
            check.due("1: value " + value + " goes by nothing", x.value(value), 0);
        }
        check.due("1: gifts need nothing and are not barred", x.open(), 255);
        check.due("1: objects share nothing", Snapshot.of(other), Snapshot.of(new Rulesheet()));
    }

    private static void needsOfScores() {
        for (int ability = 0; ability < 4; ability++) {
            Rulesheet x = new Rulesheet();
            x.setNeeds(7, ability, 16, NONE, 0, NONE);
            x.setScore(ability, 15);
            check.due("2: a score one too low", x.open(), 127);
            x.setScore(ability, 16);
            check.due("2: a score as needed", x.open(), 255);
            x.takeGift(7);
            check.due("2: a gift of a score as needed works", x.working(), 128);
            x.setScore(ability, 15);
            check.due("2: a gift of a score too low does not work", x.working(), 0);
            x.setNeeds(7, ability, 8, NONE, 0, NONE);
            check.due("2: a needed score of 8 is always there", x.working(), 128);
        }
    }

    private static void needsOfLevels() {
        for (int calling = 0; calling < 3; calling++) {
            Rulesheet x = new Rulesheet();
            x.setNeeds(3, NONE, -100, calling, 8, NONE);
            x.setNeeds(4, NONE, 100, calling, 1, NONE);
            check.due("2: no level", x.open(), 255 - 8 - 16);
            for (int level = 1; level <= 7; level++) {
                x.takeLevel(calling);
                check.due("2: level " + level, x.open(), 255 - 8);
            }
            x.takeLevel(calling);
            check.due("2: level 8", x.open(), 255);
        }
        Rulesheet x = new Rulesheet();
        x.setNeeds(0, NONE, 0, 1, 1, NONE);
        x.takeLevel(0);
        x.takeLevel(2);
        check.due("2: levels in other callings do not count", x.open(), 254);
        x.setNeeds(0, NONE, 0, NONE, 99, NONE);
        check.due("2: needs are replaced at once", x.open(), 255);
    }

    private static void needsOfGifts() {
        Rulesheet x = new Rulesheet();
        x.setNeeds(0, NONE, 0, NONE, 0, 7);
        x.takeLevel(0);
        x.takeLevel(0);
        check.due("2: without the needed gift", x.open(), 254);
        x.takeGift(7);
        check.due("2: with the needed gift", x.open(), 127);
        x.takeGift(0);
        x.setNeeds(7, 0, 9, NONE, 0, NONE);
        check.due("2: what needs a gift that does not work does not work", x.working(), 0);
        x.setNeeds(0, NONE, 0, NONE, 0, 0);
        x.clear();
        check.due("2: a gift that needs itself may not be taken", x.open(), 126);
    }

    private static void wrongNeeds() {
        Rulesheet x = new Rulesheet();
        for (int wrong : new int[] {-2, 3, 4, 8, Integer.MIN_VALUE, Integer.MAX_VALUE}) {
            if (wrong != 3 && wrong != 4) {
                check.outOfBounds("2: gift " + wrong, () -> x.setNeeds(wrong, 0, 0, 0, 0, NONE));
                check.outOfBounds("2: other " + wrong, () -> x.setNeeds(0, 0, 0, 0, 0, wrong));
            }
            if (wrong != 3) {
                check.outOfBounds("2: ability " + wrong, () -> x.setNeeds(0, wrong, 0, 0, 0, 0));
            }
            check.outOfBounds("2: calling " + wrong, () -> x.setNeeds(0, 0, 0, wrong, 0, 0));
        }
        check.outOfBounds("2: gift NONE", () -> x.setNeeds(NONE, NONE, 0, NONE, 0, NONE));
        for (int wrong : new int[] {7, 17, -1, Integer.MIN_VALUE, Integer.MAX_VALUE}) {
            check.illegalArgument("2: score " + wrong, () -> x.setNeeds(0, 3, wrong, 0, 1, 0));
        }
        for (int wrong : new int[] {0, 9, -1, Integer.MIN_VALUE, Integer.MAX_VALUE}) {
            check.illegalArgument("2: level " + wrong, () -> x.setNeeds(0, 0, 8, 2, wrong, 0));
        }
    }

    private static void bars() {
        Rulesheet x = new Rulesheet();
        x.bar(2, 0, 0);
        x.bar(3, 0, 7);
        x.bar(4, 1, 0);
        check.due("3: not above", x.open(), 255);
        x.takeLevel(0);
        check.due("3: above 0", x.open(), 251);
        x.bar(2, 0, 1);
        check.due("3: not above 1", x.open(), 255);
        for (int level = 2; level <= 7; level++) {
            x.takeLevel(0);
        }
        check.due("3: not above 7", x.open(), 251);
        x.takeLevel(0);
        check.due("3: above 7", x.open(), 243);
        x.bar(3, NONE, 99);
        check.due("3: barred no more", x.open(), 251);
        x.bar(2, 2, 0);
        check.due("3: a bar in place of the one before", x.open(), 255);
        x.takeGift(2);
        x.bar(2, 0, 0);
        check.due("3: a gift that is barred works all the same", x.working(), 4);
    }

    private static void wrongBars() {
        Rulesheet x = new Rulesheet();
        x.takeLevel(0);
        x.takeLevel(1);
        x.takeLevel(2);
        for (int wrong : new int[] {-1, 8, Integer.MIN_VALUE, Integer.MAX_VALUE}) {
            check.outOfBounds("3: gift " + wrong, () -> x.bar(wrong, 0, -1));
            check.illegalArgument("3: level " + wrong, () -> x.bar(0, 0, wrong));
        }
        for (int wrong : new int[] {-2, 3, Integer.MIN_VALUE, Integer.MAX_VALUE}) {
            check.outOfBounds("3: calling " + wrong, () -> x.bar(0, wrong, 8));
        }
    }

    private static void bonuses() {
        for (int value = 0; value < 6; value++) {
            for (int kind = 0; kind < 4; kind++) {
                Rulesheet x = new Rulesheet();
                x.takeGift(5);
                for (int amount = -9; amount <= 9; amount++) {
                    x.setBonus(5, value, kind, amount);
                    check.due("4: bonus " + value + " " + kind + " " + amount, x.bonus(value, kind), amount);
                    check.due("4: of another kind", x.bonus(value, (kind + 1) % 4), 0);
                    check.due("4: to another value", x.bonus((value + 1) % 6, kind), 0);
                }
            }
        }
        Rulesheet x = new Rulesheet();
        x.takeGift(5);
        x.setBonus(5, 5, 3, 9);
        x.setBonus(5, NONE, 3, 9);
        check.due("4: no bonus", x.bonus(5, 3), 0);
    }

    private static void wrongBonuses() {
        Rulesheet x = new Rulesheet();
        x.takeGift(0);
        for (int wrong : new int[] {-1, 8, Integer.MIN_VALUE, Integer.MAX_VALUE}) {
            check.outOfBounds("4: gift " + wrong, () -> x.setBonus(wrong, 0, -1, 10));
        }
        for (int wrong : new int[] {-2, 6, Integer.MIN_VALUE, Integer.MAX_VALUE}) {
            check.outOfBounds("4: value " + wrong, () -> x.setBonus(0, wrong, 4, -10));
        }
        for (int wrong : new int[] {-1, 4, Integer.MIN_VALUE, Integer.MAX_VALUE}) {
            check.illegalArgument("4: kind " + wrong, () -> x.setBonus(0, 0, wrong, 1));
            check.illegalArgument("4: kind without value " + wrong, () -> x.setBonus(0, NONE, wrong, 1));
        }
        for (int wrong : new int[] {-10, 10, Integer.MIN_VALUE, Integer.MAX_VALUE}) {
            check.illegalArgument("4: amount " + wrong, () -> x.setBonus(0, 0, 0, wrong));
            check.illegalArgument("4: amount without value " + wrong, () -> x.setBonus(0, NONE, 0, wrong));
        }
    }

    private static void values() {
        Rulesheet x = new Rulesheet();
        x.setScore(3, 16);
        x.takeLevel(2);
        x.takeLevel(2);
        x.setValue(5, 50, NONE, NONE, NONE);
        check.due("5: the base", x.value(5), 50);
        x.setValue(5, -50, 3, NONE, NONE);
        check.due("5: the modifier", x.value(5), -47);
        x.setValue(5, 0, NONE, 2, NONE);
        check.due("5: the level", x.value(5), 2);
        x.setValue(4, -7, NONE, NONE, NONE);
        x.setValue(5, 0, NONE, NONE, 4);
        check.due("5: the other", x.value(5), -4);
        x.setValue(5, 10, 3, 2, 4);
        check.due("5: all together", x.value(5), 11);
        x.setValue(5, 0, NONE, NONE, NONE);
        check.due("5: nothing again", x.value(5), 0);
    }

    private static void wrongValues() {
        Rulesheet x = new Rulesheet();
        for (int wrong : new int[] {-2, 6, Integer.MIN_VALUE, Integer.MAX_VALUE}) {
            check.outOfBounds("5: value " + wrong, () -> x.setValue(wrong, 51, NONE, NONE, NONE));
            check.outOfBounds("5: other " + wrong, () -> x.setValue(0, 51, 0, 0, wrong));
        }
        check.outOfBounds("5: value NONE", () -> x.setValue(NONE, 0, NONE, NONE, NONE));
        for (int wrong : new int[] {-2, 4, Integer.MIN_VALUE, Integer.MAX_VALUE}) {
            check.outOfBounds("5: ability " + wrong, () -> x.setValue(0, -51, wrong, 0, NONE));
        }
        for (int wrong : new int[] {-2, 3, Integer.MIN_VALUE, Integer.MAX_VALUE}) {
            check.outOfBounds("5: calling " + wrong, () -> x.setValue(0, -51, 0, wrong, NONE));
        }
        for (int wrong : new int[] {-51, 51, Integer.MIN_VALUE, Integer.MAX_VALUE}) {
            check.illegalArgument("5: base " + wrong, () -> x.setValue(0, wrong, 0, 0, 0));
        }
    }
}
