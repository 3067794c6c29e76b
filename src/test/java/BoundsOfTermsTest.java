/** The sentences of 'What it is' and 'Terms': the last case inside and the first outside of each that names a boundary. */
public final class BoundsOfTermsTest {

    private static final Check check = new Check("BoundsOfTermsTest");

    private static final String FULL = States.FULL;

    public static void main(String[] args) {
        whatItIs();
        calls();
        rulesHoldAtOnce();
        refusedCalls();
        refusedRules();
        exceptionsInTheirOrder();
        numbers();
        abilities();
        allScoresTogether();
        levels();
        needs();
        takingGifts();
        workingGifts();
        ringsOfGifts();
        lawfulCharacters();
        comparedOrders();
        bonuses();
        countingBonuses();
        values();
        sumsOfValues();
        ringsOfValues();
        attacks();
        check.finish();
    }

    private static void whatItIs() {
        check.sentence("A maker of characters by rules: abilities are bought with points, levels are taken in callings, gifts"
                + " need abilities, levels and other gifts, bonuses of one kind do not add up, values depend on one another,"
                + " and it is told whether a character could have come about in some lawful order, and what falls when"
                + " something is lost or exchanged.");
        String rules = "setNeeds 0 1 13 NONE 0 NONE; setNeeds 1 NONE 0 2 2 NONE; setNeeds 2 NONE 0 NONE 0 1;"
                + "setBonus 1 0 3 4; setBonus 2 0 3 6; setValue 0 3 NONE NONE NONE; setValue 1 2 NONE NONE 0;";
        check.holds(rules + "open = 248; points = 20; setScore 1 13 = 14; points = 14; open = 249");
        check.holds(rules + "takeLevel 2 = 1; level 2 = 1; open = 248; takeLevel 2 = 2; level 2 = 2; level 0 = 0; open = 250");
        check.holds(rules + "2x takeLevel 2; takeGift 2 = state; takeGift 1 = 1; open = 252; value 0 = 7; value 1 = 5;"
                + "takeGift 2 = 2; bonus 0 3 = 6; value 0 = 9; value 1 = 6");
        check.holds(rules + "2x takeLevel 2; takeGift 1; takeGift 2; isLawful = true; isLawfulByOrders = true; stepAt 0 = 2;"
                + "stepAt 1 = 2; stepAt 2 = 11; stepAt 3 = 12; stepAt 4 = -1; exchange 1 7 = state; exchange 2 7 = 0;"
                + "exchange 7 2 = 0; loseLevel = 2; gifts = 6; working = 0; bonus 0 3 = 0; value 0 = 3; isLawful = false;"
                + "isLawfulByOrders = false; stepAt 0 = state");
    }

    private static void calls() {
        check.sentence("An object is used for at most 512 calls after it has been made");
        String[] last = {"setNeeds 0 0 16 0 8 1 = -", "bar 0 0 7 = -", "setBonus 0 0 0 9 = -", "setValue 0 50 0 0 0 = -",
            "setScore 0 16 = 8", "takeLevel 0 = 1", "takeGift 0 = 1", "loseLevel = state", "exchange 0 1 = state",
            "clear = 0", "level 0 = 0", "gifts = 0", "working = 0", "open = 255", "places = 1", "points = 20",
            "value 0 = 0", "bonus 0 0 = 0", "isRing 0 = false", "attack = 0", "isLawful = true",
            "isLawfulByOrders = true", "stepAt 0 = -1"};
        for (String call : last) {
            Run run = new Run();
            for (int at = 0; at < 127; at++) {
                run.answers(Run.parted("takeLevel 2; takeGift 7; takeGift 7; clear"));
            }
            run.answers(Run.parted("takeLevel 0; takeLevel 3; loseLevel"));
            String[] sides = call.split(" = ");
            check.due("the 512th call, " + sides[0], run.answer(sides[0]), sides[1]);
        }
        Run levels = new Run();
        for (int at = 0; at < 256; at++) {
            check.due("the level taken at call " + at, levels.answer("takeLevel " + at % 3), "1");
            check.due("the level lost at call " + at, levels.answer("loseLevel"), "" + at % 3);
        }
        Run refusals = new Run();
        refusals.answer("takeGift 0");
        for (int at = 0; at < 510; at++) {
            check.due("the gift refused at call " + at, refusals.answer("takeGift 0"), "state");
        }
        check.due("after 510 refused calls", refusals.answer("gifts"), "1");
    }

    private static void rulesHoldAtOnce() {
        check.sentence("First the rules are laid, then characters are made");
        check.holds(States.RULES + "takeGift 5 = 1; gifts = 32; clear = 1; takeGift 6 = 1; gifts = 64; clear = 1;"
                + "takeLevel 0 = 1; takeGift 5 = state; takeGift 6 = 1; clear = 2; takeGift 5 = 1");
        check.sentence("rules may be changed later, too, and hold at once");
        check.holds("takeGift 0; working = 1; isLawful = true; setNeeds 0 0 9 NONE 0 NONE = -; working = 0;"
                + "isLawful = false; isLawfulByOrders = false; stepAt 0 = state; setNeeds 0 NONE 0 NONE 0 NONE = -;"
                + "working = 1; isLawful = true; isLawfulByOrders = true; stepAt 0 = 10");
        check.holds("open = 255; setNeeds 7 3 9 NONE 0 NONE; open = 127; bar 6 0 0; open = 127; takeLevel 0; open = 63;"
                + "bar 6 NONE 0; open = 127; setNeeds 7 NONE 0 NONE 0 NONE; open = 255");
        check.holds("takeGift 0; value 0 = 0; setBonus 0 0 0 9; bonus 0 0 = 9; value 0 = 9; setBonus 0 0 0 -9;"
                + "bonus 0 0 = -9; value 0 = -9; setBonus 0 NONE 0 0; bonus 0 0 = 0; value 0 = 0");
        check.holds("setValue 0 50 NONE NONE NONE; value 0 = 50; setValue 0 50 NONE NONE 0; isRing 0 = true;"
                + "value 0 = state; setValue 0 -50 NONE NONE NONE; isRing 0 = false; value 0 = -50");
        check.holds("takeGift 0; takeLevel 0; stepAt 0 = 0; stepAt 1 = 10; bar 0 0 0; stepAt 0 = 10; stepAt 1 = 0;"
                + "setNeeds 0 NONE 0 0 1 NONE; isLawful = false; isLawfulByOrders = false; bar 0 NONE 0;"
                + "isLawful = true; stepAt 0 = 0; stepAt 1 = 10");
        check.holds(FULL + "working = 248; setNeeds 7 0 16 0 3 6; working = 248; setNeeds 6 NONE 0 NONE 0 2;"
                + "working = 56; isLawful = false; setNeeds 6 NONE 0 NONE 0 3; working = 248; isLawful = true");
    }

    /** Each call that can throw, in each way in which it throws; each state is one in which some of them do. */
    private static void refusedCalls() {
        check.sentence("A call that throws an exception changes nothing");
        String[] always = {"setNeeds 8 3 16 2 8 7", "setNeeds 0 4 16 2 8 7", "setNeeds 0 3 16 3 8 7", "setNeeds 0 3 16 2 8 8",
            "bar 8 2 0", "bar 0 3 0", "setBonus 8 0 0 9", "setBonus 0 6 0 9", "setValue 6 50 3 2 0", "setValue 0 50 4 2 0",
            "setValue 0 50 3 3 0", "setValue 0 50 3 2 6", "setScore 4 9", "takeLevel 3", "takeGift 8", "exchange 8 0",
            "exchange 3 8", "level 3", "value 6", "bonus 6 0", "isRing 6", "stepAt -1"};
        for (String call : always) {
            check.holdsInAllStates(call + " = index");
        }
        String[] arguments = {"setNeeds 0 3 17 2 8 7", "setNeeds 0 3 16 2 9 7", "setNeeds 3 0 7 0 1 NONE", "bar 0 2 8",
            "setBonus 0 0 4 9", "setBonus 0 0 0 10", "setValue 0 51 3 2 0", "setScore 0 17", "setScore 3 7", "bonus 0 4"};
        for (String call : arguments) {
            check.holdsInAllStates(call + " = argument");
        }
        check.holds(FULL + "setScore 3 9 = state; takeLevel 0 = state; takeGift 0 = state; takeGift 3 = state;"
                + "exchange 0 1 = state; exchange 3 4 = state; isLawfulByOrders = state");
        check.holds(States.FALLEN + "takeGift 0 = state; exchange 1 0 = state; exchange 3 0 = state; value 3 = state;"
                + "value 4 = state; stepAt 0 = state");
        check.holds(States.RINGS + "value 0 = state; value 3 = state; stepAt 0 = state; exchange 3 0 = state;"
                + "takeLevel 1 = state; takeGift 1 = state; isLawfulByOrders = state");
        check.holds(States.RULES + "loseLevel = state; takeGift 0 = state; takeGift 1 = state; takeGift 2 = state;"
                + "takeGift 3 = state; takeGift 4 = state; exchange 5 6 = state");
    }

    /** One argument is wrong, the others are fine and differ from what holds: none of them may be taken over. */
    private static void refusedRules() {
        check.sentence("A call that throws an exception changes nothing");
        for (int gift = 0; gift < 8; gift++) {
            String[] needs = {" 4 8 2 8 6 = index", " 1 16 3 8 NONE = index", " 1 8 2 1 8 = index", " 3 17 1 8 NONE = argument",
                " 1 7 NONE 0 NONE = argument", " 1 8 2 9 NONE = argument", " 1 16 2 0 6 = argument", " 0 8 0 9 5 = argument",
                " 0 16 0 9 5 = argument", " NONE 8 1 9 NONE = argument"};
            for (String need : needs) {
                check.holdsInAllStates("setNeeds " + gift + need);
            }
            String[] bars = {" 3 1 = index", " -2 1 = index", " 0 8 = argument", " 1 -1 = argument", " 2 8 = argument"};
            for (String bar : bars) {
                check.holdsInAllStates("bar " + gift + bar);
            }
            String[] bonuses = {" 6 2 -9 = index", " -2 2 9 = index", " 3 2 10 = argument", " 0 2 -10 = argument",
                " 3 4 9 = argument", " NONE 4 9 = argument", " NONE 0 10 = argument"};
            for (String bonus : bonuses) {
                check.holdsInAllStates("setBonus " + gift + bonus);
            }
        }
        for (int value = 0; value < 6; value++) {
            String[] values = {" 50 4 2 NONE = index", " 50 2 3 NONE = index", " 50 2 2 6 = index", " -50 NONE NONE -2 = index",
                " 51 2 2 NONE = argument", " -51 NONE NONE 5 = argument", " 51 NONE NONE NONE = argument"};
            for (String made : values) {
                check.holdsInAllStates("setValue " + value + made);
            }
        }
    }

    private static void exceptionsInTheirOrder() {
        check.sentence("if several exceptions apply, the one that its throws clause names first is thrown");
        check.holds("setNeeds 8 0 17 0 9 0 = index; setNeeds 0 4 17 0 9 0 = index; setNeeds 0 0 17 3 9 0 = index;"
                + "setNeeds 0 0 17 0 9 8 = index; setNeeds -1 0 7 0 0 0 = index; setNeeds 0 -2 7 0 0 0 = index;"
                + "setNeeds 0 0 7 -2 0 0 = index; setNeeds 0 0 7 0 0 -2 = index; setNeeds 0 0 17 3 1 0 = index;"
                + "setNeeds 0 4 8 0 9 0 = index; setNeeds 0 0 17 0 9 7 = argument");
        check.holds("bar 8 0 8 = index; bar 0 3 8 = index; bar -1 0 -1 = index; bar 0 -2 -1 = index;"
                + "bar 7 2 8 = argument");
        check.holds("setBonus 8 0 4 10 = index; setBonus 0 6 4 10 = index; setBonus -1 0 -1 -10 = index;"
                + "setBonus 0 -2 -1 -10 = index; setBonus 0 6 0 10 = index; setBonus 0 6 4 0 = index;"
                + "setBonus 7 5 4 10 = argument");
        check.holds("setValue 6 51 0 0 0 = index; setValue 0 51 4 0 0 = index; setValue 0 51 0 3 0 = index;"
                + "setValue 0 51 0 0 6 = index; setValue -1 -51 0 0 0 = index; setValue 0 -51 -2 0 0 = index;"
                + "setValue 0 -51 0 -2 0 = index; setValue 0 -51 0 0 -2 = index; setValue 5 51 3 2 5 = argument");
        check.holds("setScore 4 17 = index; setScore -1 7 = index");
        check.holds(FULL + "setScore 4 16 = index; setScore 4 17 = index; setScore -1 9 = index;"
                + "setScore 3 17 = argument; setScore 3 MAX = argument; setScore 3 9 = state");
        check.holds(FULL + "takeLevel 3 = index; takeLevel -1 = index; takeLevel 2 = state");
        check.holds(FULL + "takeGift 8 = index; takeGift -1 = index; takeGift 0 = state; takeGift 7 = state");
        check.holds("exchange 8 0 = index; exchange 0 8 = index; exchange -1 -1 = index; exchange 0 0 = state");
        check.holds("takeGift 0; exchange 8 0 = index; exchange 1 8 = index; exchange 0 -1 = index;"
                + "setNeeds 0 0 16 NONE 0 NONE; setNeeds 1 0 16 NONE 0 NONE; exchange 0 8 = index;"
                + "exchange 0 1 = state");
        check.holds("setValue 0 0 NONE NONE 0; value 6 = index; value -1 = index; value 0 = state");
        check.holds("bonus 6 4 = index; bonus -1 -1 = index; bonus 5 4 = argument");
        check.holds("takeGift 0; setNeeds 0 0 9 NONE 0 NONE; stepAt -1 = index; stepAt MIN = index; stepAt 0 = state;"
                + "stepAt 2 = state; stepAt MAX = state");
    }

    private static void numbers() {
        check.sentence("There are the abilities 0 to 3, the callings 0 to 2, the gifts 0 to 7, and the values 0 to 5");
        for (int ability = 0; ability < 4; ability++) {
            check.holds("setScore " + ability + " 9 = 19");
        }
        check.holds("setScore -1 9 = index; setScore 4 9 = index");
        for (int calling = 0; calling < 3; calling++) {
            check.holds("takeLevel " + calling + " = 1; level " + calling + " = 1");
        }
        check.holds("takeLevel -1 = index; takeLevel 3 = index");
        for (int gift = 0; gift < 8; gift++) {
            check.holds("takeGift " + gift + " = 1; gifts = " + (1 << gift) + "; open = 0; working = " + (1 << gift));
        }
        check.holds("takeGift -1 = index; takeGift 8 = index");
        for (int value = 0; value < 6; value++) {
            check.holds("setValue " + value + " 7 NONE NONE NONE = -; value " + value + " = 7");
        }
        check.holds("value -1 = index; value 6 = index");
        check.sentence("The constants: `NONE = -1`: None.");
        check.due("NONE", Rulesheet.NONE, -1);
    }

    private static void abilities() {
        check.sentence("Floor means rounded down, also below 0.");
        int[][] halves = {{-50, -25}, {-49, -25}, {-3, -2}, {-2, -1}, {-1, -1}, {0, 0}, {1, 0}, {2, 1}, {3, 1}, {49, 24},
            {50, 25}};
        for (int[] half : halves) {
            check.holds("setValue 0 0 NONE NONE 1; setValue 1 " + half[0] + " NONE NONE NONE; value 0 = " + half[1]);
        }
        check.sentence("An ability has a score, 8 at first, from 8 to 16.");
        check.sentence("A score costs what it is above 8, and 1 more for each point that it is above 12.");
        check.sentence("The modifier of an ability is floor((score - 10) / 2).");
        int[] left = {20, 19, 18, 17, 16, 14, 12, 10, 8};
        int[] modifiers = {-1, -1, 0, 0, 1, 1, 2, 2, 3};
        for (int ability = 0; ability < 4; ability++) {
            String atFirst = "setValue 5 0 " + ability + " NONE NONE; points = 20; value 5 = -1;";
            check.holds(atFirst + "setScore " + ability + " 7 = argument; setScore " + ability + " 17 = argument");
            check.holds(atFirst + "setScore " + ability + " 16 = 8; setScore " + ability + " 8 = 20; value 5 = -1");
            for (int score = 8; score <= 16; score++) {
                check.holds(atFirst + "setScore " + ability + " " + score + " = " + left[score - 8]
                        + "; points = " + left[score - 8] + "; value 5 = " + modifiers[score - 8]);
            }
        }
        check.sentence("All scores together cost 20 points at the most.");
        check.holds("setScore 0 16 = 8; setScore 1 14 = 0; setScore 1 15 = state; setScore 2 9 = state; points = 0");
        check.holds("setScore 0 13 = 14; setScore 1 13 = 8; setScore 2 12 = 4; setScore 3 12 = 0; setScore 3 13 = state;"
                + "setScore 3 12 = 0; setScore 3 11 = 1; setScore 2 13 = state; setScore 0 14 = state; points = 1");
        check.holds("setScore 3 16 = 8; setScore 2 13 = 2; setScore 1 10 = 0; setScore 0 9 = state; setScore 3 15 = 2;"
                + "setScore 0 10 = 0; setScore 3 16 = state");
    }

    /** Each set of four scores that there can be: the last of them is refused if it is too dear. */
    private static void allScoresTogether() {
        int[] costs = {0, 1, 2, 3, 4, 6, 8, 10, 12};
        for (int set = 0; set < 9 * 9 * 9 * 9; set++) {
            int[] scores = {8 + set % 9, 8 + set / 9 % 9, 8 + set / 81 % 9, 8 + set / 729};
            int left = 20;
            Run run = new Run();
            for (int ability = 0; ability < 4; ability++) {
                int cost = costs[scores[ability] - 8];
                String due = cost > left ? "state" : "" + (left - cost);
                String answer = run.answer("setScore " + ability + " " + scores[ability]);
                if (!answer.equals(due)) {
                    check.due("score " + scores[ability] + " with " + left + " points left", answer, due);
                }
                left -= cost > left ? 0 : cost;
            }
            check.due("points at the end of set " + set, run.answer("points"), "" + left);
        }
    }

    private static void levels() {
        check.sentence("Levels are taken one by one, each in a calling, up to 8");
        check.holds("takeLevel 0 = 1; takeLevel 1 = 2; takeLevel 2 = 3; takeLevel 0 = 4; takeLevel 1 = 5; takeLevel 2 = 6;"
                + "takeLevel 0 = 7; takeLevel 1 = 8; takeLevel 2 = state; takeLevel 0 = state; takeLevel 1 = state");
        check.sentence("the level in a calling is how many were taken in it, the level of the character how many there are");
        for (int calling = 0; calling < 3; calling++) {
            int next = (calling + 1) % 3;
            int last = (calling + 2) % 3;
            String none = "level " + next + " = 0; level " + last + " = 0;";
            check.holds("level " + calling + " = 0;" + none + "takeLevel " + calling + " = 1; level " + calling + " = 1;"
                    + none + "6x takeLevel " + calling + "; level " + calling + " = 7; takeLevel " + calling + " = 8;"
                    + "level " + calling + " = 8;" + none + "takeLevel " + calling + " = state; level " + calling + " = 8");
            check.holds("7x takeLevel " + calling + "; takeLevel " + next + " = 8; level " + calling + " = 7; level "
                    + next + " = 1; level " + last + " = 0; takeLevel " + next + " = state; loseLevel = " + next
                    + "; level " + calling + " = 7; level " + next + " = 0");
        }
        check.sentence("The character has 1 and floor(level / 2) places for gifts.");
        int[] places = {1, 1, 2, 2, 3, 3, 4, 4, 5};
        for (int level = 0; level <= 8; level++) {
            StringBuilder script = new StringBuilder(level + "x takeLevel " + level % 3 + "; places = " + places[level]);
            for (int gift = 0; gift < places[level]; gift++) {
                script.append("; takeGift ").append(gift).append(" = ").append(gift + 1);
            }
            check.holds(script + "; open = 0; places = " + places[level] + "; takeGift 7 = state");
        }
    }

    private static void needs() {
        check.sentence("A gift may need a least score of an ability, a least level in a calling, and another gift; and it"
                + " may be barred above a greatest level in a calling.");
        check.holds("2x takeLevel 1; takeGift 5; setScore 2 12; setNeeds 6 2 12 1 2 5; bar 6 1 2; open = 223;"
                + "takeGift 6 = 2; working = 96");
        check.holds("2x takeLevel 1; takeGift 5; setScore 2 11; setNeeds 6 2 12 1 2 5; bar 6 1 2; open = 159;"
                + "takeGift 6 = state");
        check.holds("takeLevel 1; takeLevel 0; takeGift 5; setScore 2 12; setNeeds 6 2 12 1 2 5; bar 6 1 2; open = 159;"
                + "takeGift 6 = state");
        check.holds("2x takeLevel 1; takeGift 4; setScore 2 12; setNeeds 6 2 12 1 2 5; bar 6 1 2; open = 175;"
                + "takeGift 6 = state");
        check.holds("3x takeLevel 1; takeGift 5; setScore 2 12; setNeeds 6 2 12 1 2 5; bar 6 1 2; open = 159;"
                + "takeGift 6 = state");
        check.sentence("At first gifts need nothing, and are not barred.");
        for (int gift = 0; gift < 8; gift++) {
            check.holds("takeGift " + gift + " = 1; working = " + (1 << gift) + "; isLawful = true");
            for (int calling = 0; calling < 3; calling++) {
                check.holds("8x takeLevel " + calling + "; open = 255; takeGift " + gift + " = 1; working = " + (1 << gift));
            }
        }
    }

    private static void takingGifts() {
        check.sentence("A character with some levels and gifts may take a gift that it does not have");
        check.holds("8x takeLevel 0; takeGift 0 = 1; takeGift 0 = state; open = 254; takeGift 7 = 2; takeGift 7 = state;"
                + "open = 126; takeGift 1 = 3; open = 124");
        check.sentence("if it has fewer gifts than places");
        check.holds("takeGift 0 = 1; open = 0; takeGift 1 = state; takeLevel 0; open = 0; takeGift 1 = state; takeLevel 1;"
                + "open = 254; takeGift 1 = 2; open = 0; takeGift 2 = state");
        check.holds(FULL + "open = 0; takeGift 0 = state");
        check.holds("4x takeLevel 0; takeGift 0; takeGift 1; takeGift 2; 4x loseLevel; places = 1; gifts = 7; open = 0;"
                + "takeGift 3 = state; 4x takeLevel 1; open = 0; takeGift 3 = state; 2x takeLevel 1; open = 248");
        check.sentence("its scores and levels are what the gift needs");
        for (int score = 8; score <= 16; score++) {
            for (int needed = 8; needed <= 16; needed++) {
                String due = score < needed ? "open = 127; takeGift 7 = state" : "open = 255; takeGift 7 = 1";
                check.holds("setNeeds 7 3 " + needed + " NONE 0 NONE; setScore 3 " + score + ";" + due);
            }
        }
        for (int level = 0; level <= 8; level++) {
            for (int needed = 1; needed <= 8; needed++) {
                String due = level < needed ? "open = 254; takeGift 0 = state" : "open = 255; takeGift 0 = 1";
                check.holds("setNeeds 0 NONE 0 2 " + needed + " NONE;" + level + "x takeLevel 2;" + due);
            }
        }
        check.sentence("it has the gift that is needed");
        check.holds("2x takeLevel 0; setNeeds 0 NONE 0 NONE 0 7; open = 254; takeGift 0 = state; takeGift 7; open = 127;"
                + "takeGift 0 = 2");
        check.holds("2x takeLevel 0; setNeeds 7 NONE 0 NONE 0 0; open = 127; takeGift 7 = state; takeGift 0; open = 254;"
                + "takeGift 7 = 2");
        check.holds("setNeeds 0 NONE 0 NONE 0 0; open = 254; takeGift 0 = state");
        check.sentence("the level in that calling is not above the one above which the gift is barred");
        for (int level = 0; level <= 8; level++) {
            for (int greatest = 0; greatest <= 7; greatest++) {
                String due = level > greatest ? "open = 127; takeGift 7 = state" : "open = 255; takeGift 7 = 1";
                check.holds("bar 7 1 " + greatest + ";" + level + "x takeLevel 1;" + due);
            }
        }
        check.holds("bar 7 1 0; 4x takeLevel 0; 4x takeLevel 2; open = 255; takeGift 7 = 1");
    }

    private static void workingGifts() {
        check.sentence("A gift of the character works if the scores and levels are what it needs");
        for (int needed = 8; needed <= 16; needed++) {
            check.holds("setNeeds 7 0 " + needed + " NONE 0 NONE; setScore 0 " + needed + "; takeGift 7; working = 128;"
                    + "setScore 0 " + Math.max(8, needed - 1) + "; gifts = 128; working = " + (needed > 8 ? 0 : 128));
        }
        for (int needed = 1; needed <= 8; needed++) {
            check.holds("setNeeds 0 NONE 0 2 " + needed + " NONE;" + needed + "x takeLevel 2; takeGift 0; working = 1;"
                    + "loseLevel = 2; gifts = 1; working = 0; takeLevel 2; working = 1");
        }
        check.sentence("and the gift that it needs, if any, is one of the character's that works, too.");
        check.holds("2x takeLevel 0; takeGift 6; setNeeds 7 NONE 0 NONE 0 6; takeGift 7; working = 192;"
                + "setNeeds 6 0 9 NONE 0 NONE; working = 0; setScore 0 9; working = 192; setNeeds 7 NONE 0 NONE 0 5;"
                + "working = 64; exchange 6 5 = 0; working = 160");
        check.holds("takeGift 1; setNeeds 1 NONE 0 NONE 0 0; gifts = 2; working = 0");
        check.holds(FULL + "setNeeds 7 NONE 0 NONE 0 6; setNeeds 6 NONE 0 NONE 0 5; setNeeds 5 NONE 0 NONE 0 4;"
                + "setNeeds 4 NONE 0 NONE 0 3; working = 248; setNeeds 3 3 9 NONE 0 NONE; working = 0;"
                + "setNeeds 3 NONE 0 0 4 NONE; working = 0; setNeeds 3 NONE 0 0 3 NONE; working = 248;"
                + "setNeeds 3 NONE 0 NONE 0 2; working = 0");
        check.holds(FULL + "setNeeds 3 NONE 0 NONE 0 4; setNeeds 4 NONE 0 NONE 0 5; setNeeds 5 NONE 0 NONE 0 6;"
                + "setNeeds 6 NONE 0 NONE 0 7; working = 248; setNeeds 7 NONE 0 NONE 0 2; working = 0");
    }

    private static void ringsOfGifts() {
        check.sentence("(A gift that needs itself, or gifts that need one another in a ring, do not work.)");
        check.holds("takeGift 0; setNeeds 0 NONE 0 NONE 0 0; gifts = 1; working = 0; isLawful = false");
        check.holds("takeGift 7; setNeeds 7 NONE 0 NONE 0 7; gifts = 128; working = 0; isLawful = false");
        check.holds(FULL + "setNeeds 7 NONE 0 NONE 0 7; working = 120; setNeeds 6 NONE 0 NONE 0 7; working = 56");
        for (int length = 2; length <= 5; length++) {
            StringBuilder script = new StringBuilder(FULL);
            for (int at = 0; at < length; at++) {
                script.append("setNeeds ").append(3 + at).append(" NONE 0 NONE 0 ").append(3 + (at + 1) % length).append(';');
            }
            int ring = ((1 << length) - 1) << 3;
            check.holds(script + "gifts = 248; working = " + (248 - ring) + "; isLawful = false; setNeeds 3 NONE 0 NONE 0 NONE;"
                    + "working = 248; isLawful = true");
        }
    }

    private static void lawfulCharacters() {
        check.sentence("A character is lawful if its levels and gifts, each once, can be put in an order in which, from a"
                + " character without levels and gifts on, each gift may be taken when its turn comes");
        String[] gifts = {"takeGift 0", "takeGift 1", "takeGift 2", "takeGift 3", "takeGift 4"};
        StringBuilder all = new StringBuilder();
        for (int places = 1; places <= 5; places++) {
            all.append(gifts[places - 1]).append(';');
            String byOrders = places < 3 ? "isLawfulByOrders = true;" : "";
            check.holds((2 * places - 2) + "x takeLevel 1;" + all + "isLawful = true;" + byOrders);
            if (places > 1) {
                check.holds((2 * places - 2) + "x takeLevel 1;" + all + "loseLevel; isLawful = false; takeLevel 0;"
                        + "isLawful = true");
            }
        }
        check.holds("setNeeds 0 NONE 0 0 1 NONE; takeLevel 0; takeGift 0; isLawful = true; bar 0 0 0; isLawful = false;"
                + "isLawfulByOrders = false; bar 0 0 1; isLawful = true; isLawfulByOrders = true");
        check.holds("2x takeLevel 0; takeGift 0; takeGift 1; bar 0 0 0; isLawful = true; isLawfulByOrders = true;"
                + "bar 1 0 1; isLawful = false; isLawfulByOrders = false; bar 1 0 2; isLawful = true");
        check.holds("2x takeLevel 0; takeGift 0; takeGift 1; bar 0 0 0; setNeeds 0 NONE 0 NONE 0 1; isLawful = false;"
                + "isLawfulByOrders = false; bar 0 0 1; isLawful = false; bar 0 0 2; isLawful = true");
        check.sentence("(with the scores as they are now)");
        check.holds("setScore 0 9; setNeeds 0 0 9 NONE 0 NONE; takeGift 0; isLawful = true; setScore 0 8; isLawful = false;"
                + "isLawfulByOrders = false; setScore 0 10; isLawful = true; isLawfulByOrders = true");
        check.sentence("levels can always be taken");
        check.holds("isLawful = true; isLawfulByOrders = true; 3x takeLevel 2; 2x takeLevel 0; 3x takeLevel 1;"
                + "isLawful = true; isLawfulByOrders = true; stepAt 7 = 2; stepAt 8 = -1");
        check.holds(FULL + "isLawful = true; isLawfulByOrders = state; stepAt 12 = 17; stepAt 13 = -1");
    }

    private static void comparedOrders() {
        check.sentence("Orders are compared step by step: levels come ahead of gifts");
        check.holds("takeGift 0; takeLevel 2; stepAt 0 = 2; stepAt 1 = 10; stepAt 2 = -1");
        check.sentence("lower callings and lower gifts ahead of higher ones");
        check.holds("takeLevel 2; takeLevel 1; takeLevel 0; stepAt 0 = 0; stepAt 1 = 1; stepAt 2 = 2; stepAt 3 = -1");
        check.holds("2x takeLevel 0; takeGift 7; takeGift 0; stepAt 0 = 0; stepAt 1 = 0; stepAt 2 = 10; stepAt 3 = 17;"
                + "stepAt 4 = -1");
        // A higher step comes first only if the lower one leads nowhere, however late that shows.
        check.holds("takeGift 7; 7x takeLevel 0; takeLevel 2; bar 7 2 0; setNeeds 7 NONE 0 0 7 NONE; stepAt 6 = 0;"
                + "stepAt 7 = 17; stepAt 8 = 2; bar 7 0 6; isLawful = false; setNeeds 7 NONE 0 0 6 NONE; stepAt 5 = 0;"
                + "stepAt 6 = 2; stepAt 7 = 17; stepAt 8 = 0");
        check.holds("2x takeLevel 0; 2x takeLevel 1; takeGift 0; takeGift 1; takeGift 2; bar 2 0 0; bar 2 1 0;"
                + "stepAt 0 = 0; stepAt 1 = 0; stepAt 2 = 10; stepAt 3 = 12; stepAt 4 = 1; bar 2 0 0; stepAt 0 = 1;"
                + "stepAt 1 = 1; stepAt 2 = 10; stepAt 3 = 12; stepAt 4 = 0; stepAt 5 = 0; stepAt 6 = 11; stepAt 7 = -1");
    }

    private static void bonuses() {
        check.sentence("A gift gives a bonus to a value, with a kind from 0 to 3 and an amount from -9 to 9");
        for (int gift = 0; gift < 8; gift += 7) {
            for (int kind = 0; kind < 4; kind++) {
                for (int amount = -9; amount <= 9; amount++) {
                    check.holds("takeGift " + gift + "; setBonus " + gift + " 5 " + kind + " " + amount + " = -; bonus 5 "
                            + kind + " = " + amount + "; value 5 = " + amount);
                }
                check.holds("takeGift 0; setBonus 0 0 " + kind + " 10 = argument; setBonus 0 0 " + kind + " -10 = argument");
            }
        }
        check.holds("takeGift 0; setBonus 0 0 -1 1 = argument; setBonus 0 0 4 1 = argument");
        check.sentence("at first it gives none");
        for (int gift = 0; gift < 8; gift++) {
            StringBuilder script = new StringBuilder("takeGift " + gift);
            for (int value = 0; value < 6; value++) {
                script.append("; value ").append(value).append(" = 0");
                for (int kind = 0; kind < 4; kind++) {
                    script.append("; bonus ").append(value).append(' ').append(kind).append(" = 0");
                }
            }
            check.holds(script.toString());
        }
    }

    private static String given(int kind, int... amounts) {
        StringBuilder script = new StringBuilder(FULL);
        for (int at = 0; at < amounts.length; at++) {
            script.append("setBonus ").append(3 + at).append(" 4 ").append(kind).append(' ').append(amounts[at]).append(';');
        }
        return script.toString();
    }

    private static void countingBonuses() {
        int[][] amounts = {{9, 9, 9, 9, 9}, {-9, -9, -9, -9, -9}, {0, 0, 0, 0, 0}, {1, 0, -1, 0, 0}, {9, -9, -9, -9, -9},
            {9, 8, 8, 9, -1}, {1, 2, 3, 4, 5}, {5, 4, 3, 2, 1}, {-1, 0, 0, 0, 0}, {1, 0, 0, 0, 0}, {1, 1, 0, 0, 0},
            {-1, -1, 1, 1, 0}, {}};
        int[] all = {45, -45, 0, 0, -27, 33, 15, 15, -1, 1, 2, 0, 0};
        int[] counting = {9, -45, 0, 0, -27, 8, 5, 5, -1, 1, 1, -1, 0};
        for (int row = 0; row < amounts.length; row++) {
            check.sentence("of the kind 0 all");
            check.holds(given(0, amounts[row]) + "bonus 4 0 = " + all[row] + "; value 4 = " + all[row]
                    + "; bonus 4 1 = 0; bonus 3 0 = 0; bonus 5 0 = 0");
            check.sentence("of another kind all that are below 0, and the greatest one that is above 0");
            for (int kind = 1; kind <= 3; kind++) {
                check.holds(given(kind, amounts[row]) + "bonus 4 " + kind + " = " + counting[row] + "; value 4 = "
                        + counting[row] + "; bonus 4 0 = 0; bonus 4 " + (kind % 3 + 1) + " = 0");
            }
        }
        check.sentence("Of all gifts that work, the amounts for a value count");
        check.holds("2x takeLevel 0; setBonus 0 0 1 9; setBonus 1 0 1 9; setBonus 2 0 1 9; bonus 0 1 = 0; takeGift 0;"
                + "bonus 0 1 = 9; takeGift 1; bonus 0 1 = 9; setNeeds 0 0 9 NONE 0 NONE; bonus 0 1 = 9;"
                + "setNeeds 1 0 9 NONE 0 NONE; bonus 0 1 = 0; value 0 = 0; setScore 0 9; bonus 0 1 = 9; value 0 = 9");
        check.holds("2x takeLevel 0; setBonus 0 0 1 9; setBonus 1 0 2 8; takeGift 0; takeGift 1; value 0 = 17;"
                + "setBonus 1 0 1 8; value 0 = 9; setBonus 0 1 1 9; value 0 = 8; value 1 = 9");
    }

    private static void values() {
        check.sentence("A value has a base, 0 at first, and may have an ability, a calling, and another value that it goes"
                + " by; at first it has none of these.");
        for (int value = 0; value < 6; value++) {
            check.holds("value " + value + " = 0; isRing " + value + " = false;" + FULL + "value " + value + " = 0");
            int other = (value + 1) % 6;
            check.holds("setValue " + other + " 50 NONE NONE NONE; value " + value + " = 0; setValue " + value
                    + " 0 NONE NONE " + other + "; value " + value + " = 25; value " + other + " = 50");
        }
    }

    private static String allGoingBy(int base, String calling) {
        StringBuilder script = new StringBuilder();
        for (int value = 0; value < 6; value++) {
            String other = value < 5 ? "" + (value + 1) : "NONE";
            script.append("setValue ").append(value).append(' ').append(base).append(" 0 ").append(calling).append(' ');
            script.append(other).append(';');
        }
        return script.toString();
    }

    private static void sumsOfValues() {
        check.sentence("It is the sum of its base, the modifier of its ability, the level in its calling, floor(x / 2) with"
                + " x for the value that it goes by, and the bonuses that count.");
        StringBuilder greatest = new StringBuilder("setScore 0 16; 8x takeLevel 0;" + allGoingBy(50, "0"));
        StringBuilder least = new StringBuilder("8x takeLevel 0;" + allGoingBy(-50, "1"));
        int[] highs = {120, 118, 114, 106, 91, 61};
        int[] lows = {-101, -99, -96, -90, -77, -51};
        for (int value = 0; value < 6; value++) {
            check.holds(greatest + "value " + value + " = " + highs[value]);
            check.holds(least + "value " + value + " = " + lows[value]);
        }
        for (int gift = 0; gift < 5; gift++) {
            greatest.append("takeGift ").append(gift).append("; setBonus ").append(gift).append(" 0 0 9;");
            least.append("takeGift ").append(gift).append("; setBonus ").append(gift).append(" 0 3 -9;");
        }
        check.holds(greatest + "value 0 = 165; value 1 = 118; setBonus 4 5 1 9; value 5 = 70; value 4 = 96; value 3 = 109;"
                + "value 2 = 115; value 1 = 118; value 0 = 156");
        check.holds(least + "value 0 = -146; value 1 = -99; setBonus 4 5 0 -9; value 5 = -60; value 4 = -81;"
                + "value 3 = -92; value 2 = -97; value 1 = -100; value 0 = -137");
        check.holds("takeLevel 0; takeLevel 2; setValue 0 0 NONE 2 NONE; value 0 = 1; takeLevel 2; value 0 = 2;"
                + "loseLevel; loseLevel; value 0 = 0; setValue 0 0 NONE 0 NONE; value 0 = 1; setValue 0 0 NONE 1 NONE;"
                + "value 0 = 0");
    }

    private static void ringsOfValues() {
        check.sentence("A value that goes by itself, at once or by way of others, is in a ring");
        for (int value = 0; value < 6; value++) {
            check.holds("setValue " + value + " 1 NONE NONE " + value + "; isRing " + value + " = true; value " + value
                    + " = state; isRing " + (value + 1) % 6 + " = false; value " + (value + 1) % 6 + " = 0");
        }
        for (int length = 2; length <= 6; length++) {
            StringBuilder ring = new StringBuilder();
            StringBuilder due = new StringBuilder();
            for (int at = 0; at < 6; at++) {
                int other = at < length ? (at + 1) % length : Rulesheet.NONE;
                ring.append("setValue ").append(at).append(" 1 NONE NONE ").append(other).append(';');
                due.append("isRing ").append(at).append(" = ").append(at < length).append("; value ").append(at);
                due.append(at < length ? " = state;" : " = 1;");
            }
            check.holds(ring.toString() + due + "setValue 0 1 NONE NONE NONE; isRing 0 = false; value 0 = 1; isRing "
                    + (length - 1) + " = false; value " + (length - 1) + " = 1; isRing 1 = false; value 1 = 1");
        }
        check.sentence("and so is one that goes by a value that is in a ring.");
        for (int tail = 1; tail <= 5; tail++) {
            StringBuilder script = new StringBuilder("setValue 0 0 NONE NONE 0;");
            for (int at = 1; at <= tail; at++) {
                script.append("setValue ").append(at).append(" 0 NONE NONE ").append(at - 1).append(';');
            }
            check.holds(script + "isRing " + tail + " = true; value " + tail + " = state; setValue 0 8 NONE NONE NONE;"
                    + "isRing " + tail + " = false; value " + tail + " = " + (8 >> tail));
        }
        check.holds("setValue 0 0 NONE NONE 5; setValue 5 0 NONE NONE 4; setValue 4 0 NONE NONE 5; isRing 0 = true;"
                + "value 0 = state; isRing 1 = false; setValue 1 0 NONE NONE 2; isRing 1 = false; value 1 = 0");
    }

    private static void attacks() {
        check.sentence("The attack of a character is found in float arithmetic: for each calling k, by rising numbers, the"
                + " level in it times (k + 2) / 4f is added, and, if the character has levels in a lower calling, too, 0.125f"
                + " times the level in this calling k is taken off; the sum is cast to an int.");
        int[][] due = {{0, 0, 0, 0}, {1, 0, 0, 0}, {2, 0, 0, 1}, {3, 0, 0, 1}, {8, 0, 0, 4}, {0, 1, 0, 0}, {0, 2, 0, 1},
            {0, 3, 0, 2}, {0, 4, 0, 3}, {0, 8, 0, 6}, {0, 0, 1, 1}, {0, 0, 8, 8}, {1, 1, 0, 1}, {1, 0, 1, 1},
            {0, 1, 1, 1}, {1, 1, 1, 2}, {1, 7, 0, 4}, {7, 1, 0, 4}, {7, 0, 1, 4}, {1, 0, 7, 6}, {0, 1, 7, 6},
            {0, 7, 1, 6}, {4, 0, 4, 5}, {2, 4, 2, 5}, {2, 2, 2, 4}, {0, 4, 4, 6}, {3, 3, 2, 5}, {1, 1, 6, 6}};
        for (int[] row : due) {
            check.holds(row[2] + "x takeLevel 2;" + row[0] + "x takeLevel 0;" + row[1] + "x takeLevel 1; attack = " + row[3]);
        }
        check.holds("takeLevel 2; attack = 1; takeLevel 2; attack = 2; takeLevel 0; attack = 2; loseLevel; attack = 2;"
                + "takeGift 0; setBonus 0 0 0 9; attack = 2; clear; attack = 0");
    }
}
