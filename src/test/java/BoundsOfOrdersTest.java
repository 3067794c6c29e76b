/** Promises 22 to 24, sentence by sentence: how many steps there may be, the first and the last step, no order at all. */
public final class BoundsOfOrdersTest {

    private static final Check check = new Check("BoundsOfOrdersTest");

    /** Each gift may be taken at one moment alone, and each needs the one before. */
    private static final String TIGHT = "bar 3 0 0; setNeeds 4 NONE 0 0 2 3; bar 4 0 2; setNeeds 5 NONE 0 0 4 4; bar 5 0 4;"
            + "setNeeds 6 NONE 0 0 6 5; bar 6 0 6; setNeeds 7 NONE 0 0 8 6; takeGift 3; 2x takeLevel 0; takeGift 4;"
            + "2x takeLevel 0; takeGift 5; 2x takeLevel 0; takeGift 6; 2x takeLevel 0; takeGift 7;";

    public static void main(String[] args) {
        lawful();
        allCountsOfLevelsAndGifts();
        tightOrders();
        byOrders();
        stepArguments();
        firstAndLastSteps();
        noOrder();
        givenOrders();
        check.finish();
    }

    private static void lawful() {
        check.sentence("22: Tells whether the character is lawful, by what can be reached step by step.");
        check.holds("isLawful = true; takeGift 0; isLawful = true; takeLevel 2; isLawful = true; clear; isLawful = true");
        check.holds(States.FULL + "isLawful = true; loseLevel; isLawful = false; takeLevel 0; isLawful = true");
        check.holds(States.FALLEN + "isLawful = false; takeLevel 0; isLawful = true");
        check.holds(States.RINGS + "isLawful = false");
        check.holds("takeGift 0; setNeeds 0 0 16 NONE 0 NONE; isLawful = false; setScore 0 15; isLawful = false;"
                + "setScore 0 16; isLawful = true");
        check.holds("7x takeLevel 1; takeGift 0; setNeeds 0 NONE 0 1 8 NONE; isLawful = false; takeLevel 1; isLawful = true;"
                + "loseLevel; takeLevel 2; isLawful = false");
        check.holds("2x takeLevel 1; takeGift 0; takeGift 1; setNeeds 0 NONE 0 NONE 0 2; isLawful = false;"
                + "setNeeds 0 NONE 0 NONE 0 1; isLawful = true; setNeeds 1 NONE 0 NONE 0 0; isLawful = false;"
                + "setNeeds 0 NONE 0 NONE 0 0; isLawful = false; setNeeds 0 NONE 0 NONE 0 NONE; isLawful = true");
        for (int level = 0; level <= 7; level++) {
            check.holds("8x takeLevel 2; takeGift 0; bar 0 2 " + level + "; isLawful = true; stepAt " + level + " = 10; stepAt "
                    + (level + 1) + " = 2; stepAt 9 = -1");
        }
    }

    /** Levels of one calling and gifts without rules: what counts is the places alone. */
    private static void allCountsOfLevelsAndGifts() {
        check.sentence("23: Throws `IllegalStateException` if the character has more than 8 levels and gifts together");
        for (int levels = 0; levels <= 8; levels++) {
            for (int gifts = 0; gifts <= 5; gifts++) {
                StringBuilder script = new StringBuilder("8x takeLevel 1;");
                for (int gift = 0; gift < gifts; gift++) {
                    script.append("takeGift ").append(gift).append(';');
                }
                boolean lawful = gifts <= 1 + levels / 2;
                int steps = levels + gifts;
                script.append(8 - levels).append("x loseLevel; isLawful = ").append(lawful).append("; isLawfulByOrders = ");
                script.append(steps > 8 ? "state" : "" + lawful).append(';');
                for (int step = 0; step < steps; step++) {
                    String due = step < levels ? "1" : "" + (10 + step - levels);
                    script.append("stepAt ").append(step).append(" = ").append(lawful ? due : "state").append(';');
                }
                String end = lawful ? "-1" : "state";
                script.append("stepAt ").append(steps).append(" = ").append(end).append("; stepAt MAX = ").append(end);
                check.holds(script + "; stepAt -1 = index; stepAt MIN = index; clear = " + steps);
            }
        }
    }

    private static void tightOrders() {
        check.sentence("22: Tells whether the character is lawful, by what can be reached step by step.");
        check.holds(TIGHT + "isLawful = true; stepAt 0 = 13; stepAt 1 = 0; stepAt 2 = 0; stepAt 3 = 14; stepAt 4 = 0;"
                + "stepAt 5 = 0; stepAt 6 = 15; stepAt 7 = 0; stepAt 8 = 0; stepAt 9 = 16; stepAt 10 = 0; stepAt 11 = 0;"
                + "stepAt 12 = 17; stepAt 13 = -1; isLawfulByOrders = state; working = 248");
        check.holds(TIGHT + "bar 4 0 1; isLawful = false; stepAt 0 = state; isLawfulByOrders = state; bar 4 0 3;"
                + "isLawful = true; stepAt 3 = 0; stepAt 4 = 14; stepAt 5 = 0");
        check.holds(TIGHT + "bar 6 0 5; isLawful = false; bar 6 0 7; isLawful = true; stepAt 9 = 0; stepAt 10 = 16;"
                + "bar 6 NONE 0; stepAt 10 = 0; stepAt 11 = 16; stepAt 12 = 17");
        check.holds(TIGHT + "setNeeds 3 NONE 0 NONE 0 7; isLawful = false; setNeeds 3 NONE 0 0 1 NONE; isLawful = false;"
                + "setNeeds 3 0 9 NONE 0 NONE; isLawful = false; setScore 0 9; isLawful = true");
        check.holds(TIGHT + "bar 7 0 7; isLawful = false; setNeeds 7 NONE 0 0 7 6; isLawful = false; loseLevel;"
                + "isLawful = false; takeLevel 1; isLawful = true; stepAt 0 = 1; stepAt 1 = 13; stepAt 9 = 0; stepAt 10 = 16;"
                + "stepAt 11 = 0; stepAt 12 = 17; stepAt 13 = -1");
    }

    private static void byOrders() {
        check.sentence("23: Tells the same, by trying every order.");
        check.holds("isLawfulByOrders = true");
        check.holds("takeLevel 0; takeGift 0; stepAt 1 = 10; isLawfulByOrders = true; stepAt 0 = 0; isLawfulByOrders = true;"
                + "isLawful = true; isLawfulByOrders = true; exchange 0 1 = 0; isLawfulByOrders = true; bar 1 0 0;"
                + "stepAt 0 = 11; isLawfulByOrders = true; setNeeds 1 NONE 0 0 1 NONE; isLawfulByOrders = false;"
                + "isLawful = false; isLawfulByOrders = false");
        check.holds("8x takeLevel 0; isLawfulByOrders = true; takeGift 0; isLawfulByOrders = state; loseLevel;"
                + "isLawfulByOrders = true; bar 0 0 0; isLawfulByOrders = true; setNeeds 0 NONE 0 0 1 NONE;"
                + "isLawfulByOrders = false; takeLevel 0; isLawfulByOrders = state; isLawful = false");
        check.holds("2x takeLevel 0; 2x takeLevel 1; takeLevel 2; takeGift 5; takeGift 6; takeGift 7; isLawfulByOrders = true;"
                + "bar 5 0 0; bar 6 1 0; isLawfulByOrders = true; bar 7 2 0; isLawfulByOrders = true; bar 7 0 0;"
                + "isLawfulByOrders = false; bar 7 NONE 0; isLawfulByOrders = true; setNeeds 5 NONE 0 NONE 0 7;"
                + "isLawfulByOrders = false; setNeeds 5 NONE 0 NONE 0 NONE; isLawfulByOrders = true; takeLevel 2;"
                + "isLawfulByOrders = state");
        check.holds("3x takeLevel 0; 3x takeLevel 1; takeGift 0; takeGift 1; isLawfulByOrders = true; bar 0 0 0; bar 1 1 0;"
                + "isLawfulByOrders = true; setNeeds 0 NONE 0 1 3 NONE; isLawfulByOrders = true;"
                + "setNeeds 1 NONE 0 0 1 NONE; isLawfulByOrders = false; bar 1 1 2; isLawfulByOrders = false; bar 1 1 3;"
                + "isLawfulByOrders = true");
        check.holds("6x takeLevel 0; takeGift 0; takeGift 1; takeGift 2; isLawfulByOrders = state; takeGift 3; loseLevel;"
                + "isLawfulByOrders = state; loseLevel; isLawfulByOrders = false; clear; isLawfulByOrders = true");
        check.holds(States.FULL + "isLawfulByOrders = state; 4x loseLevel; isLawfulByOrders = state; loseLevel;"
                + "isLawfulByOrders = false; 3x loseLevel; isLawfulByOrders = false");
    }

    private static void stepArguments() {
        check.sentence("24: `step`: from 0");
        check.sentence("24: Throws `IndexOutOfBoundsException` if step is below 0");
        for (int step : new int[] {-1, -2, -8, -256, -65536, Integer.MIN_VALUE, Integer.MIN_VALUE + 1}) {
            check.holdsInAllStates("stepAt " + step + " = index");
        }
        check.sentence("24: NONE if the order does not have so many steps.");
        for (int step : new int[] {13, 14, 48, 255, 256, 65536, Integer.MAX_VALUE - 1, Integer.MAX_VALUE}) {
            check.holds("stepAt " + step + " = -1");
            check.holds(States.FULL + "stepAt " + step + " = -1");
            check.holds(States.RULED + "stepAt " + step + " = -1");
            check.holds(States.FALLEN + "stepAt " + step + " = state");
            check.holds(States.RINGS + "stepAt " + step + " = state");
        }
    }

    private static void firstAndLastSteps() {
        check.sentence("24: Returns a calling in which a level is taken; or 10 and a gift that is taken; NONE if the order does"
                + " not have so many steps.");
        check.holds("stepAt 0 = -1; stepAt 1 = -1");
        for (int calling = 0; calling < 3; calling++) {
            check.holds("takeLevel " + calling + "; stepAt 0 = " + calling + "; stepAt 1 = -1; 7x takeLevel " + calling
                    + "; stepAt 7 = " + calling + "; stepAt 8 = -1");
        }
        for (int gift = 0; gift < 8; gift++) {
            check.holds("takeGift " + gift + "; stepAt 0 = " + (10 + gift) + "; stepAt 1 = -1; takeLevel 0; stepAt 0 = 0;"
                    + "stepAt 1 = " + (10 + gift) + "; stepAt 2 = -1; bar " + gift + " 0 0; stepAt 0 = " + (10 + gift)
                    + "; stepAt 1 = 0; stepAt 2 = -1");
        }
        check.holds(States.FULL + "stepAt 0 = 0; stepAt 2 = 0; stepAt 3 = 1; stepAt 5 = 1; stepAt 6 = 2; stepAt 7 = 2;"
                + "stepAt 8 = 13; stepAt 12 = 17; stepAt 13 = -1");
    }

    private static void noOrder() {
        check.sentence("24: Throws `IllegalStateException` if the character is not lawful");
        check.holds(States.FALLEN + "stepAt 0 = state; stepAt 5 = state; stepAt 6 = state; takeLevel 2; stepAt 0 = state;"
                + "setNeeds 1 0 12 0 1 5; stepAt 0 = 2; stepAt 6 = 11; stepAt 7 = -1");
        check.holds("2x takeLevel 0; takeGift 0; takeGift 1; loseLevel; stepAt 0 = state; stepAt 3 = state; takeLevel 1;"
                + "stepAt 0 = 0; stepAt 3 = 11; stepAt 4 = -1");
    }

    private static void givenOrders() {
        check.sentence("24: Returns a step of the first lawful order of the character.");
        // The order is that of the document, not the one in which all was taken.
        check.holds("takeGift 7; takeLevel 2; takeLevel 0; takeGift 1; takeLevel 1; stepAt 0 = 0; stepAt 1 = 1; stepAt 2 = 2;"
                + "stepAt 3 = 11; stepAt 4 = 17; stepAt 5 = -1");
        check.holds("3x takeLevel 2; takeLevel 0; takeGift 0; takeGift 7; setNeeds 0 NONE 0 NONE 0 7; bar 0 2 1; stepAt 0 = 0;"
                + "stepAt 1 = 2; stepAt 2 = 17; stepAt 3 = 10; stepAt 4 = 2; stepAt 5 = 2; stepAt 6 = -1");
        check.holds("takeLevel 0; takeLevel 1; takeGift 6; takeGift 5; bar 5 1 0; stepAt 0 = 0; stepAt 1 = 15; stepAt 2 = 1;"
                + "stepAt 3 = 16; bar 6 0 0; stepAt 0 = state; bar 5 NONE 0; stepAt 0 = 1; stepAt 1 = 16; stepAt 2 = 0;"
                + "stepAt 3 = 15; bar 5 0 0; stepAt 0 = state");
    }
}
