/** Promises 1 to 5, sentence by sentence: the last int inside and the first outside, what is not used, what is thrown. */
public final class BoundsOfRulesTest {

    private static final Check check = new Check("BoundsOfRulesTest");

    public static void main(String[] args) {
        newObject();
        statesAreWhatTheyAreMeantToBe();
        needsArguments();
        needsNotUsed();
        needsOutOfRange();
        needsReplaced();
        barArguments();
        barNotUsed();
        barReplaced();
        bonusArguments();
        bonusReplaced();
        valueArguments();
        valueReplaced();
        check.finish();
    }

    private static void newObject() {
        check.sentence("1: Creates a character without levels and gifts, by rules that are as at first.");
        check.holds("level 0 = 0; level 1 = 0; level 2 = 0; gifts = 0; working = 0; open = 255; places = 1; points = 20;"
                + "attack = 0; isLawful = true; isLawfulByOrders = true; stepAt 0 = -1; loseLevel = state; clear = 0");
        StringBuilder script = new StringBuilder();
        for (int value = 0; value < 6; value++) {
            script.append("value ").append(value).append(" = 0; isRing ").append(value).append(" = false;");
            for (int kind = 0; kind < 4; kind++) {
                script.append("bonus ").append(value).append(' ').append(kind).append(" = 0;");
            }
        }
        check.holds(script.toString());
        check.holds(States.FULL + script);
        check.holds("8x takeLevel 0; open = 255");
        check.holds("8x takeLevel 1; open = 255");
        check.holds("8x takeLevel 2; open = 255");
        Rulesheet first = new Rulesheet();
        first.takeLevel(0);
        first.takeGift(0);
        first.setScore(0, 16);
        first.setNeeds(1, 0, 16, 0, 8, 0);
        first.setValue(0, 50, 0, 0, 0);
        Rulesheet second = new Rulesheet();
        check.due("1: a new object beside a used one", Snapshot.of(second), Snapshot.of(new Rulesheet()));
    }

    private static void statesAreWhatTheyAreMeantToBe() {
        check.about("the states of the tests");
        check.holds(States.FULL + "points = 0; places = 5; gifts = 248; working = 248; open = 0; isLawful = true;"
                + "isLawfulByOrders = state; stepAt 12 = 17; stepAt 13 = -1");
        check.holds(States.RULES + "open = 224; isRing 3 = true; isRing 4 = true; isRing 0 = false; isLawful = true");
        check.holds(States.RULED + "points = 15; gifts = 42; working = 42; isLawful = true; isLawfulByOrders = true;"
                + "stepAt 0 = 2; stepAt 1 = 2; stepAt 2 = 13; stepAt 3 = 15; stepAt 4 = 0; stepAt 5 = 0; stepAt 6 = 11;"
                + "stepAt 7 = -1; bonus 0 0 = 9; bonus 0 1 = -2; value 2 = 49; value 1 = 18; value 0 = 29; value 5 = 1;"
                + "value 3 = state; attack = 2");
        check.holds(States.FALLEN + "gifts = 42; working = 40; open = 0; isLawful = false; isLawfulByOrders = false;"
                + "stepAt 0 = state; bonus 0 0 = 0; value 0 = 19");
        check.holds(States.RINGS + "gifts = 248; working = 128; isLawful = false; isRing 3 = true; value 4 = 13;"
                + "isLawfulByOrders = state; stepAt 0 = state");
    }

    private static String due(int number, int least, int greatest, String kind) {
        return least <= number && number <= greatest ? " = -" : " = " + kind;
    }

    private static void needsArguments() {
        check.sentence("2: `gift`: 0 to 7");
        for (int gift : Ints.anywhere(0, 7)) {
            check.holdsInAllStates("setNeeds " + gift + " 0 8 0 1 0" + due(gift, 0, 7, "index"));
            check.holdsInAllStates("setNeeds " + gift + " NONE 0 NONE 0 NONE" + due(gift, 0, 7, "index"));
        }
        check.sentence("2: `ability`: 0 to 3, or NONE");
        for (int ability : Ints.anywhere(-1, 3)) {
            check.holdsInAllStates("setNeeds 7 " + ability + " 16 0 8 7" + due(ability, -1, 3, "index"));
        }
        check.sentence("2: `calling`: 0 to 2, or NONE");
        for (int calling : Ints.anywhere(-1, 2)) {
            check.holdsInAllStates("setNeeds 0 3 16 " + calling + " 1 0" + due(calling, -1, 2, "index"));
        }
        check.sentence("2: `other`: 0 to 7: the gift that is needed, or NONE");
        for (int other : Ints.anywhere(-1, 7)) {
            check.holdsInAllStates("setNeeds 5 0 8 2 8 " + other + due(other, -1, 7, "index"));
        }
        for (int gift = 0; gift < 8; gift++) {
            for (int other = 0; other < 8; other++) {
                String then = gift == other ? "isLawful = true"
                        : "takeGift " + other + " = 1; open = " + (255 - (1 << other)) + "; takeGift " + gift + " = 2";
                check.holds("2x takeLevel 0; setNeeds " + gift + " NONE 0 NONE 0 " + other + "; open = "
                        + (255 - (1 << gift)) + "; takeGift " + gift + " = state;" + then);
            }
        }
        check.sentence("2: Throws `IndexOutOfBoundsException` if there is no such gift, ability, calling or other");
        check.holds("setNeeds -1 NONE 0 NONE 0 NONE = index; setNeeds 8 NONE 0 NONE 0 NONE = index;"
                + "setNeeds 0 -2 8 NONE 0 NONE = index; setNeeds 0 4 8 NONE 0 NONE = index;"
                + "setNeeds 0 NONE 0 -2 1 NONE = index; setNeeds 0 NONE 0 3 1 NONE = index;"
                + "setNeeds 0 NONE 0 NONE 0 -2 = index; setNeeds 0 NONE 0 NONE 0 8 = index; open = 255");
    }

    private static void needsNotUsed() {
        check.sentence("2: `score`: 8 to 16: the least score of the ability; not used without one");
        for (int score : Ints.anywhere(8, 16)) {
            check.holdsInAllStates("setNeeds 3 NONE " + score + " 1 8 7 = -");
            check.holds("setNeeds 0 NONE " + score + " NONE 0 NONE = -; open = 255; takeGift 0 = 1; working = 1;"
                    + "isLawful = true; stepAt 0 = 10");
        }
        for (int ability = 0; ability < 4; ability++) {
            check.holds("setNeeds 4 " + ability + " 16 NONE 0 NONE = -; setScore " + ability + " 15; open = 239; setScore "
                    + ability + " 16; open = 255; takeGift 4; working = 16; setScore " + ability + " 15; working = 0");
            check.holds("setNeeds 4 " + ability + " 9 NONE 0 NONE = -; open = 239; setScore " + ability + " 9; open = 255");
            check.holds("setNeeds 4 " + ability + " 8 NONE 0 NONE = -; open = 255");
        }
        check.sentence("2: `level`: 1 to 8: the least level in the calling; not used without one");
        for (int level : Ints.anywhere(1, 8)) {
            check.holdsInAllStates("setNeeds 3 2 16 NONE " + level + " 7 = -");
            check.holds("setNeeds 0 NONE 0 NONE " + level + " NONE = -; open = 255; takeGift 0 = 1; working = 1;"
                    + "isLawful = true; stepAt 0 = 10");
        }
        for (int calling = 0; calling < 3; calling++) {
            check.holds("setNeeds 4 NONE 0 " + calling + " 8 NONE = -; 7x takeLevel " + calling + "; open = 239; takeLevel "
                    + calling + "; open = 255; takeGift 4; working = 16; loseLevel; working = 0");
            check.holds("setNeeds 4 NONE 0 " + calling + " 1 NONE = -; open = 239; takeLevel " + (calling + 1) % 3
                    + "; takeLevel " + (calling + 2) % 3 + "; open = 239; takeLevel " + calling + "; open = 255");
        }
        check.holds("setNeeds 0 NONE MIN NONE MAX NONE = -; open = 255; setNeeds 0 NONE MAX NONE MIN 7 = -; open = 254");
    }

    private static void needsOutOfRange() {
        check.sentence("2: Throws `IllegalArgumentException` if score or level is used and out of range");
        for (int score : Ints.anywhere(8, 16)) {
            check.holdsInAllStates("setNeeds 6 0 " + score + " NONE 0 NONE" + due(score, 8, 16, "argument"));
            check.holdsInAllStates("setNeeds 6 3 " + score + " 2 1 7" + due(score, 8, 16, "argument"));
        }
        for (int level : Ints.anywhere(1, 8)) {
            check.holdsInAllStates("setNeeds 6 NONE 0 0 " + level + " NONE" + due(level, 1, 8, "argument"));
            check.holdsInAllStates("setNeeds 6 3 16 2 " + level + " 7" + due(level, 1, 8, "argument"));
        }
        check.holds("setNeeds 6 0 7 0 0 NONE = argument; setNeeds 6 0 17 0 9 NONE = argument; open = 255");
    }

    private static void needsReplaced() {
        check.sentence("2: Sets what a gift needs.");
        check.holds("setNeeds 0 0 16 NONE 0 NONE; setNeeds 0 1 9 NONE 0 NONE; setScore 0 16; open = 254; setScore 0 8;"
                + "setScore 1 9; open = 255");
        check.holds("setNeeds 0 NONE 0 0 8 NONE; setNeeds 0 NONE 0 1 1 NONE; takeLevel 1; open = 255");
        check.holds("2x takeLevel 0; setNeeds 0 NONE 0 NONE 0 1; setNeeds 0 NONE 0 NONE 0 2; takeGift 1; open = 252;"
                + "takeGift 2; open = 0; exchange 1 0 = 0; gifts = 5");
        check.holds("setNeeds 0 3 16 2 8 7; setNeeds 0 NONE 0 NONE 0 NONE; open = 255");
        check.holds("setNeeds 0 3 16 2 8 7; setNeeds 0 4 16 2 8 7 = index; setNeeds 0 3 17 NONE 0 NONE = argument; open = 254");
        check.holds("bar 0 0 0; setBonus 0 0 0 9; setNeeds 0 0 8 0 1 NONE; open = 254; takeLevel 0; open = 254;"
                + "bar 0 NONE 0; open = 255; takeGift 0; bonus 0 0 = 9");
    }

    private static void barArguments() {
        check.sentence("3: `gift`: 0 to 7");
        for (int gift : Ints.anywhere(0, 7)) {
            check.holdsInAllStates("bar " + gift + " 0 0" + due(gift, 0, 7, "index"));
            check.holdsInAllStates("bar " + gift + " NONE 0" + due(gift, 0, 7, "index"));
        }
        check.sentence("3: `calling`: 0 to 2, or NONE to bar it no more");
        for (int calling : Ints.anywhere(-1, 2)) {
            check.holdsInAllStates("bar 7 " + calling + " 7" + due(calling, -1, 2, "index"));
        }
        for (int gift = 0; gift < 8; gift++) {
            for (int calling = 0; calling < 3; calling++) {
                int without = 255 - (1 << gift);
                check.holds("bar " + gift + " " + calling + " 0; open = 255; takeLevel " + (calling + 1) % 3 + "; takeLevel "
                        + (calling + 2) % 3 + "; open = 255; takeLevel " + calling + "; open = " + without + "; takeGift "
                        + gift + " = state; bar " + gift + " NONE 0; open = 255; takeGift " + gift + " = 1");
            }
        }
        check.sentence("3: Throws `IndexOutOfBoundsException` if there is no such gift or calling");
        check.holds("bar -1 NONE 0 = index; bar 8 NONE 0 = index; bar 0 -2 0 = index; bar 0 3 0 = index;"
                + "bar 0 MIN 0 = index; bar MAX 0 0 = index");
        check.sentence("3: Throws `IllegalArgumentException` if level is used and out of range");
        for (int level : Ints.anywhere(0, 7)) {
            check.holdsInAllStates("bar 0 0 " + level + due(level, 0, 7, "argument"));
            check.holdsInAllStates("bar 7 2 " + level + due(level, 0, 7, "argument"));
        }
    }

    private static void barNotUsed() {
        check.sentence("3: `level`: 0 to 7: the greatest level with which it may be taken; not used without a calling");
        for (int level : Ints.anywhere(0, 7)) {
            check.holdsInAllStates("bar 3 NONE " + level + " = -");
            check.holds("bar 3 0 0; takeLevel 0; open = 247; bar 3 NONE " + level + "; open = 255; takeGift 3 = 1;"
                    + "stepAt 0 = 0; stepAt 1 = 13");
        }
        for (int calling = 0; calling < 3; calling++) {
            check.holds("bar 3 " + calling + " 7; 7x takeLevel " + calling + "; open = 255; takeLevel " + calling
                    + "; open = 247; takeGift 3 = state; loseLevel; takeGift 3 = 1; takeLevel " + calling
                    + "; working = 8; isLawful = true; stepAt 7 = 13; stepAt 8 = " + calling);
            check.holds("bar 3 " + calling + " 0; open = 255; takeGift 3; takeLevel " + calling + "; working = 8;"
                    + "stepAt 0 = 13; stepAt 1 = " + calling);
        }
    }

    private static void barReplaced() {
        check.sentence("3: Bars a gift above a level in a calling, in place of what barred it before.");
        check.holds("bar 0 0 0; bar 0 1 0; takeLevel 0; open = 255; takeLevel 1; open = 254; bar 0 2 0; open = 255;"
                + "bar 0 0 1; open = 255; bar 0 0 0; open = 254; bar 0 0 8 = argument; open = 254; bar 0 3 7 = index;"
                + "open = 254; bar 1 0 0; open = 252; bar 0 NONE 0; open = 253");
        check.holds("bar 0 0 0; setNeeds 0 0 8 NONE 0 NONE; takeLevel 0; open = 254");
    }

    private static void bonusArguments() {
        check.sentence("4: `gift`: 0 to 7");
        for (int gift : Ints.anywhere(0, 7)) {
            check.holdsInAllStates("setBonus " + gift + " 0 0 9" + due(gift, 0, 7, "index"));
            check.holdsInAllStates("setBonus " + gift + " NONE 3 -9" + due(gift, 0, 7, "index"));
        }
        check.sentence("4: `value`: 0 to 5, or NONE for no bonus");
        check.sentence("4: Throws `IndexOutOfBoundsException` if there is no such gift or value");
        for (int value : Ints.anywhere(-1, 5)) {
            check.holdsInAllStates("setBonus 3 " + value + " 3 -9" + due(value, -1, 5, "index"));
        }
        check.holds("takeGift 0; setBonus 0 5 0 9; value 5 = 9; setBonus 0 NONE 0 9 = -; value 5 = 0; bonus 5 0 = 0");
        check.sentence("4: `kind`: 0 to 3");
        check.sentence("4: Throws `IllegalArgumentException` if kind or amount is out of range");
        for (int kind : Ints.anywhere(0, 3)) {
            check.holdsInAllStates("setBonus 3 0 " + kind + " 5" + due(kind, 0, 3, "argument"));
            check.holdsInAllStates("setBonus 3 NONE " + kind + " 0" + due(kind, 0, 3, "argument"));
        }
        check.sentence("4: `amount`: -9 to 9");
        for (int amount : Ints.anywhere(-9, 9)) {
            check.holdsInAllStates("setBonus 7 5 3 " + amount + due(amount, -9, 9, "argument"));
            check.holdsInAllStates("setBonus 0 NONE 0 " + amount + due(amount, -9, 9, "argument"));
        }
        check.holds("setBonus 0 0 -1 10 = argument; setBonus 0 0 4 -10 = argument; setBonus 0 NONE 4 10 = argument");
    }

    private static void bonusReplaced() {
        check.sentence("4: Sets the bonus of a gift.");
        for (int gift = 0; gift < 8; gift++) {
            for (int value = 0; value < 6; value++) {
                check.holds("setBonus " + gift + " " + value + " 2 9; bonus " + value + " 2 = 0; takeGift " + gift + "; bonus "
                        + value + " 2 = 9; value " + value + " = 9; setBonus " + gift + " " + (value + 1) % 6
                        + " 0 -9; bonus " + value + " 2 = 0; value " + value + " = 0; bonus " + (value + 1) % 6
                        + " 0 = -9; value " + (value + 1) % 6 + " = -9");
            }
        }
    }

    private static void valueArguments() {
        check.sentence("5: `value`: 0 to 5");
        for (int value : Ints.anywhere(0, 5)) {
            check.holdsInAllStates("setValue " + value + " 50 0 0 0" + due(value, 0, 5, "index"));
            check.holdsInAllStates("setValue " + value + " 0 NONE NONE NONE" + due(value, 0, 5, "index"));
        }
        check.sentence("5: `ability`: 0 to 3, or NONE");
        for (int ability : Ints.anywhere(-1, 3)) {
            check.holdsInAllStates("setValue 0 -50 " + ability + " 2 5" + due(ability, -1, 3, "index"));
        }
        check.sentence("5: `calling`: 0 to 2, or NONE");
        for (int calling : Ints.anywhere(-1, 2)) {
            check.holdsInAllStates("setValue 5 50 3 " + calling + " NONE" + due(calling, -1, 2, "index"));
        }
        check.sentence("5: `other`: 0 to 5: the value that it goes by, or NONE");
        for (int other : Ints.anywhere(-1, 5)) {
            check.holdsInAllStates("setValue 2 1 NONE NONE " + other + due(other, -1, 5, "index"));
        }
        check.sentence("5: Throws `IndexOutOfBoundsException` if there is no such value, ability, calling or other");
        check.holds("setValue NONE 0 NONE NONE NONE = index; setValue 6 0 NONE NONE NONE = index;"
                + "setValue 0 0 -2 NONE NONE = index; setValue 0 0 4 NONE NONE = index; setValue 0 0 NONE -2 NONE = index;"
                + "setValue 0 0 NONE 3 NONE = index; setValue 0 0 NONE NONE -2 = index; setValue 0 0 NONE NONE 6 = index");
        check.sentence("5: `base`: -50 to 50");
        check.sentence("5: Throws `IllegalArgumentException` if base is out of range");
        for (int base : Ints.anywhere(-50, 50)) {
            check.holdsInAllStates("setValue 5 " + base + " 3 2 NONE" + due(base, -50, 50, "argument"));
            check.holds("setValue 0 " + base + " NONE NONE NONE" + due(base, -50, 50, "argument") + "; value 0 = "
                    + (base < -50 || base > 50 ? 0 : base));
        }
    }

    private static void valueReplaced() {
        check.sentence("5: Sets what a value is made of.");
        int[] modifiers = {-1, 0, 1, 3};
        String scores = "setScore 1 10; setScore 2 12; setScore 3 16; 2x takeLevel 0; takeLevel 1; 3x takeLevel 2;";
        for (int value = 0; value < 6; value++) {
            for (int ability = 0; ability < 4; ability++) {
                check.holds(scores + "setValue " + value + " 20 " + ability + " NONE NONE; value " + value + " = "
                        + (20 + modifiers[ability]));
            }
            check.holds(scores + "setValue " + value + " -20 NONE 0 NONE; value " + value + " = -18; setValue " + value
                    + " -20 NONE 1 NONE; value " + value + " = -19; setValue " + value + " -20 NONE 2 NONE; value " + value
                    + " = -17; setValue " + value + " 50 3 2 NONE; value " + value + " = 56; setValue " + value
                    + " 0 NONE NONE NONE; value " + value + " = 0");
            for (int other = 0; other < 6; other++) {
                String due = other == value ? "state" : "-6";
                check.holds("setValue " + other + " -11 NONE NONE NONE; setValue " + value + " 0 NONE NONE " + other + "; value "
                        + value + " = " + due + "; isRing " + value + " = " + (other == value));
            }
        }
        check.holds("takeGift 0; setBonus 0 0 1 5; setValue 0 1 NONE NONE NONE; value 0 = 6; bonus 0 1 = 5");
    }
}
