/** Promises 12 to 21, sentence by sentence: each question's ends, in the empty and the full state and between. */
public final class BoundsOfQuestionsTest {

    private static final Check check = new Check("BoundsOfQuestionsTest");

    public static void main(String[] args) {
        level();
        gifts();
        working();
        open();
        places();
        points();
        value();
        valueInARing();
        bonusArguments();
        bonusesThatCount();
        isRing();
        attack();
        questionsChangeNothing();
        check.finish();
    }

    private static void refusedInAllStates(String call, int[] numbers, String behind, String kind) {
        for (int number : numbers) {
            check.holdsInAllStates(call + " " + number + behind + " = " + kind);
        }
    }

    private static void level() {
        check.sentence("12: Returns the level in a calling.");
        check.sentence("12: `calling`: 0 to 2");
        check.holds("level 0 = 0; level 1 = 0; level 2 = 0");
        for (int calling = 0; calling < 3; calling++) {
            StringBuilder script = new StringBuilder();
            for (int level = 1; level <= 8; level++) {
                script.append("takeLevel ").append(calling).append("; level ").append(calling).append(" = ").append(level);
                script.append("; level ").append((calling + 1) % 3).append(" = 0; level ").append((calling + 2) % 3);
                script.append(" = 0;");
            }
            check.holds(script + "loseLevel; level " + calling + " = 7; clear; level " + calling + " = 0");
        }
        check.holds(States.FULL + "level 0 = 3; level 1 = 3; level 2 = 2");
        check.holds(States.FALLEN + "level 0 = 1; level 1 = 0; level 2 = 2");
        check.sentence("12: Throws `IndexOutOfBoundsException` if there is no such calling");
        refusedInAllStates("level", Ints.outside(0, 2), "", "index");
    }

    private static void gifts() {
        check.sentence("13: Returns the gifts of the character, as a set: the bit g for the gift g.");
        check.holds("gifts = 0; takeGift 0; gifts = 1; clear; gifts = 0; takeGift 7; gifts = 128; 8x takeLevel 0; takeGift 0;"
                + "gifts = 129; takeGift 3; gifts = 137; takeGift 5; gifts = 169; takeGift 1; gifts = 171; takeGift 2 = state;"
                + "gifts = 171; 8x loseLevel; gifts = 171");
        check.holds(States.FULL + "gifts = 248; exchange 7 0 = 0; gifts = 121");
        check.holds(States.RINGS + "gifts = 248");
    }

    private static void working() {
        check.sentence("14: Returns the gifts of the character that work, as a set.");
        check.holds("working = 0; takeGift 0; working = 1; clear; takeGift 7; working = 128; clear; working = 0");
        check.holds(States.FULL + "working = 248; setNeeds 3 1 14 1 3 7; working = 248; setNeeds 3 1 15 1 3 7; working = 240;"
                + "setNeeds 3 1 14 1 4 7; working = 240; setNeeds 3 1 14 1 3 0; working = 240; setNeeds 3 1 14 1 3 7;"
                + "setNeeds 7 0 16 2 2 4; working = 248; setNeeds 4 2 8 0 3 5; working = 248; setNeeds 4 2 9 0 3 5;"
                + "working = 96");
        check.holds(States.RULES + "working = 0");
        check.holds(States.FALLEN + "working = 40; takeLevel 0; working = 42");
        // A gift that is not the character's works for nobody, and what bars a gift does not stop it.
        check.holds("takeLevel 0; takeLevel 1; takeGift 0; bar 0 0 0; working = 1; takeGift 1; setNeeds 1 NONE 0 NONE 0 0;"
                + "working = 3; setNeeds 0 0 16 NONE 0 NONE; working = 0");
    }

    private static void open() {
        check.sentence("15: Returns the gifts that the character may take now, as a set.");
        check.holds("open = 255; takeGift 0; open = 0; takeLevel 0; open = 0; takeLevel 0; open = 254; takeGift 7; open = 0;"
                + "2x takeLevel 2; open = 126; loseLevel; open = 0; clear; open = 255");
        check.holds(States.FULL + "open = 0; clear; open = 255");
        check.holds(States.FULL + "setNeeds 0 NONE 0 NONE 0 NONE; open = 0");
        check.holds(States.FALLEN + "open = 0; 3x takeLevel 1; open = 148");
        check.holds("setNeeds 0 0 16 0 8 7; bar 0 1 0; setScore 0 16; takeGift 7; 7x takeLevel 0; open = 126; takeLevel 0;"
                + "open = 127; setScore 0 15; open = 126; setScore 0 16; exchange 7 6 = 0; open = 190; exchange 6 7 = 0;"
                + "open = 127; loseLevel; takeLevel 1; open = 126");
        for (int gift = 0; gift < 8; gift++) {
            StringBuilder closing = new StringBuilder();
            for (int other = 0; other < 8; other++) {
                if (other != gift) {
                    closing.append("setNeeds ").append(other).append(" NONE 0 NONE 0 ").append(other).append(';');
                }
            }
            check.holds(closing + "open = " + (1 << gift) + "; takeGift " + gift + " = 1; open = 0");
        }
    }

    private static void places() {
        check.sentence("16: Returns how many places for gifts there are.");
        int[] due = {1, 1, 2, 2, 3, 3, 4, 4, 5};
        for (int calling = 0; calling < 3; calling++) {
            StringBuilder script = new StringBuilder("places = 1;");
            for (int level = 1; level <= 8; level++) {
                script.append("takeLevel ").append((calling * level) % 3).append("; places = ").append(due[level]).append(';');
            }
            for (int level = 7; level >= 0; level--) {
                script.append("loseLevel; places = ").append(due[level]).append(';');
            }
            check.holds(script.toString());
        }
        check.holds("takeGift 0; places = 1; takeLevel 0; places = 1; takeLevel 1; places = 2; takeGift 1; places = 2;"
                + "takeLevel 0; places = 2; clear; places = 1");
        check.holds(States.FULL + "places = 5; 8x loseLevel; places = 1");
    }

    private static void points() {
        check.sentence("17: Returns how many points are left.");
        check.holds("points = 20; setScore 0 9; points = 19; setScore 0 12; points = 16; setScore 0 13; points = 14;"
                + "setScore 0 16; points = 8; setScore 3 14; points = 0; setScore 1 9 = state; points = 0; setScore 0 8;"
                + "points = 12; setScore 3 8; points = 20");
        check.holds("setScore 1 13; setScore 2 13; points = 8; takeLevel 0; takeGift 0; clear; points = 8");
        check.holds(States.FULL + "points = 0; clear; points = 0");
    }

    private static void value() {
        check.sentence("18: `value`: 0 to 5");
        check.sentence("18: Throws `IndexOutOfBoundsException` if there is no such value");
        refusedInAllStates("value", Ints.outside(0, 5), "", "index");
        check.sentence("18: Returns a value.");
        for (int value = 0; value < 6; value++) {
            check.holds("value " + value + " = 0; setValue " + value + " -50 NONE NONE NONE; value " + value + " = -50; setValue "
                    + value + " 50 NONE NONE NONE; value " + value + " = 50; takeGift 0; setBonus 0 " + value + " 0 -9; value "
                    + value + " = 41; setBonus 0 " + value + " 3 9; value " + value + " = 59");
            for (int ability = 0; ability < 4; ability++) {
                check.holds("setValue " + value + " 0 " + ability + " NONE NONE; value " + value + " = -1; setScore " + ability
                        + " 9; value " + value + " = -1; setScore " + ability + " 10; value " + value + " = 0; setScore "
                        + ability + " 11; value " + value + " = 0; setScore " + ability + " 12; value " + value
                        + " = 1; setScore " + ability + " 15; value " + value + " = 2; setScore " + ability + " 16; value "
                        + value + " = 3; setScore " + (ability + 1) % 4 + " 14; value " + value + " = 3");
            }
            for (int calling = 0; calling < 3; calling++) {
                check.holds("setValue " + value + " 0 NONE " + calling + " NONE; value " + value + " = 0; 8x takeLevel " + calling
                        + "; value " + value + " = 8; loseLevel; value " + value + " = 7; takeLevel " + (calling + 1) % 3
                        + "; value " + value + " = 7; clear; value " + value + " = 0");
            }
        }
        check.holds(States.FULL + "setValue 0 -50 0 0 1; setValue 1 -49 1 1 2; setValue 2 -48 2 2 NONE; value 2 = -47;"
                + "value 1 = -68; value 0 = -78; setBonus 3 1 1 9; setBonus 4 1 1 8; setBonus 5 1 2 7; setBonus 6 1 0 -3;"
                + "setBonus 7 1 3 -9; value 1 = -64; value 0 = -76");
    }

    private static void valueInARing() {
        check.sentence("18: Throws `IllegalStateException` if it is in a ring");
        check.holds("setValue 0 0 NONE NONE 0; value 0 = state; value 1 = 0; setValue 1 0 NONE NONE 0; value 1 = state;"
                + "setValue 0 5 NONE NONE NONE; value 0 = 5; value 1 = 2");
        check.holds("setValue 5 0 NONE NONE 5; value 5 = state; value 0 = 0; bonus 5 0 = 0");
        check.holds(States.RINGS + "value 0 = state; value 1 = state; value 2 = state; value 3 = state; value 4 = 13;"
                + "value 5 = 9; setValue 5 0 NONE NONE 3; value 5 = state; value 4 = state; setValue 2 0 NONE NONE NONE;"
                + "value 2 = 0; value 1 = 0; value 0 = 0; value 3 = 0; value 5 = 9; value 4 = 13");
    }

    private static void bonusArguments() {
        check.sentence("19: `value`: 0 to 5");
        check.sentence("19: Throws `IndexOutOfBoundsException` if there is no such value");
        refusedInAllStates("bonus", Ints.outside(0, 5), " 0", "index");
        refusedInAllStates("bonus", Ints.outside(0, 5), " 4", "index");
        check.sentence("19: `kind`: 0 to 3");
        check.sentence("19: Throws `IllegalArgumentException` if kind is out of range");
        refusedInAllStates("bonus 0", Ints.outside(0, 3), "", "argument");
        refusedInAllStates("bonus 5", Ints.outside(0, 3), "", "argument");
        for (int value = 0; value < 6; value++) {
            for (int kind = 0; kind < 4; kind++) {
                check.holds("bonus " + value + " " + kind + " = 0; takeGift 7; setBonus 7 " + value + " " + kind + " 9; bonus "
                        + value + " " + kind + " = 9; bonus " + value + " " + (kind + 1) % 4 + " = 0; bonus " + (value + 1) % 6
                        + " " + kind + " = 0; clear; bonus " + value + " " + kind + " = 0");
            }
        }
    }

    private static void bonusesThatCount() {
        check.sentence("19: Returns the sum of the bonuses of a kind that count for a value.");
        for (int kind = 0; kind < 4; kind++) {
            StringBuilder nines = new StringBuilder();
            StringBuilder losses = new StringBuilder();
            for (int gift = 0; gift < 8; gift++) {
                nines.append("setBonus ").append(gift).append(" 2 ").append(kind).append(" 9;");
                losses.append("setBonus ").append(gift).append(" 2 ").append(kind).append(" -9;");
            }
            String asked = "bonus 2 " + kind;
            int most = kind == 0 ? 45 : 9;
            int with = kind == 0 ? 27 : -9;
            check.holds(nines + asked + " = 0;" + States.FULL + asked + " = " + most + "; value 2 = " + most
                    + "; setBonus 3 2 " + kind + " -9; " + asked + " = " + (kind == 0 ? 27 : 0) + "; setBonus 4 2 " + kind
                    + " -9; " + asked + " = " + (kind == 0 ? 9 : -9) + "; setBonus 3 NONE 0 0; setBonus 4 NONE 0 0; " + asked
                    + " = " + (kind == 0 ? 27 : 9));
            check.holds(losses + asked + " = 0;" + States.FULL + asked + " = -45; value 2 = -45; setBonus 3 2 " + kind + " 9; "
                    + asked + " = -27; setBonus 4 2 " + kind + " 9; " + asked + " = " + (kind == 0 ? -9 : -18)
                    + "; setBonus 5 2 " + kind + " 9; " + asked + " = " + (kind == 0 ? 9 : -9) + "; setBonus 6 2 " + kind
                    + " 9; " + asked + " = " + (kind == 0 ? with : 0));
        }
        check.holds(States.FULL + "setBonus 3 0 1 5; setBonus 4 0 2 6; setBonus 5 0 3 7; setBonus 6 0 0 8; setBonus 7 0 1 4;"
                + "bonus 0 0 = 8; bonus 0 1 = 5; bonus 0 2 = 6; bonus 0 3 = 7; value 0 = 26; setNeeds 3 2 9 NONE 0 NONE;"
                + "bonus 0 1 = 4; value 0 = 25; setNeeds 7 NONE 0 NONE 0 3; bonus 0 1 = 0; value 0 = 21");
        check.holds("setValue 1 0 NONE NONE 1; takeGift 0; setBonus 0 1 2 5; bonus 1 2 = 5; value 1 = state");
    }

    private static void isRing() {
        check.sentence("20: `value`: 0 to 5");
        check.sentence("20: Throws `IndexOutOfBoundsException` if there is no such value");
        refusedInAllStates("isRing", Ints.outside(0, 5), "", "index");
        check.sentence("20: Tells whether a value is in a ring.");
        for (int value = 0; value < 6; value++) {
            int other = (value + 5) % 6;
            check.holds("isRing " + value + " = false; setValue " + value + " 0 NONE NONE " + value + "; isRing " + value
                    + " = true; setValue " + value + " 0 NONE NONE " + other + "; isRing " + value + " = false; setValue " + other
                    + " 0 NONE NONE " + value + "; isRing " + value + " = true; isRing " + other + " = true; setValue " + value
                    + " 0 NONE NONE NONE; isRing " + value + " = false; isRing " + other + " = false");
        }
        check.holds("setValue 0 0 NONE NONE 1; setValue 1 0 NONE NONE 2; setValue 2 0 NONE NONE 3; setValue 3 0 NONE NONE 4;"
                + "setValue 4 0 NONE NONE 5; isRing 0 = false; isRing 5 = false; setValue 5 0 NONE NONE 5; isRing 0 = true;"
                + "isRing 5 = true; setValue 5 0 NONE NONE 0; isRing 0 = true; isRing 5 = true; setValue 5 0 NONE NONE 4;"
                + "isRing 0 = true; setValue 4 0 NONE NONE NONE; isRing 0 = false; isRing 5 = false");
        check.holds(States.RINGS + "isRing 0 = true; isRing 1 = true; isRing 2 = true; isRing 3 = true; isRing 4 = false;"
                + "isRing 5 = false; setValue 5 0 NONE NONE 4; isRing 4 = true; isRing 5 = true");
    }

    private static void attack() {
        check.sentence("21: Returns the attack.");
        check.holds("attack = 0; takeLevel 0; attack = 0; takeLevel 0; attack = 1");
        check.holds(States.FULL + "attack = 5; 8x loseLevel; attack = 0");
        check.holds(States.RULED + "attack = 2; loseLevel; attack = 2");
        check.holds("8x takeLevel 0; attack = 4");
        check.holds("8x takeLevel 1; attack = 6; loseLevel; attack = 5");
        check.holds("8x takeLevel 2; attack = 8; loseLevel; attack = 7; takeLevel 1; attack = 6; loseLevel; takeLevel 0;"
                + "attack = 6");
    }

    private static void questionsChangeNothing() {
        check.sentence("Nothing is promised beyond the answers and state changes described above");
        for (String state : States.ALL) {
            Run asked = new Run();
            asked.answers(Run.parted(state));
            String first = asked.answers(Traces.QUESTIONS);
            check.due("all questions asked again", asked.answers(Traces.QUESTIONS), first);
            for (String question : Traces.QUESTIONS) {
                check.due(question + " is a question", Traces.leavesBehind(Run.parted(state), question), "nothing");
            }
            questionsInPairs(state);
        }
    }

    /** Each question is answered behind each other one as it is at first. */
    private static void questionsInPairs(String state) {
        for (String second : Traces.QUESTIONS) {
            Run alone = new Run();
            alone.answers(Run.parted(state));
            String due = alone.answer(second);
            for (String first : Traces.QUESTIONS) {
                Run run = new Run();
                run.answers(Run.parted(state));
                run.answer(first);
                check.due(second + " behind " + first, run.answer(second), due);
            }
        }
    }
}
