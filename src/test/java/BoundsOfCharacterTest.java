/** Promises 6 to 11, sentence by sentence: the last case inside and the first outside, the empty and the full state. */
public final class BoundsOfCharacterTest {

    private static final Check check = new Check("BoundsOfCharacterTest");

    public static void main(String[] args) {
        scoreArguments();
        pointsLeft();
        levelArguments();
        allLevels();
        giftArguments();
        giftsThatMayNotBeTaken();
        lostLevels();
        exchangeArguments();
        exchanges();
        refusedExchanges();
        exchangesThatWouldNotBeLawful();
        fallenByExchange();
        cleared();
        check.finish();
    }

    private static void refusedInAllStates(String call, int[] numbers, String behind) {
        for (int number : numbers) {
            check.holdsInAllStates(call + " " + number + behind + " = index");
        }
    }

    private static void scoreArguments() {
        check.sentence("6: `ability`: 0 to 3");
        check.sentence("6: Throws `IndexOutOfBoundsException` if there is no such ability");
        refusedInAllStates("setScore", Ints.outside(0, 3), " 8");
        for (int ability = 0; ability < 4; ability++) {
            check.holds("setScore " + ability + " 16 = 8; setScore " + ability + " 8 = 20");
            check.holdsInAllStates("setScore " + ability + " 8");
        }
        check.sentence("6: `score`: 8 to 16");
        check.sentence("6: Throws `IllegalArgumentException` if score is out of range");
        for (int ability = 0; ability < 4; ability++) {
            for (int score : Ints.outside(8, 16)) {
                check.holdsInAllStates("setScore " + ability + " " + score + " = argument");
            }
            for (int score = 8; score <= 16; score++) {
                check.holds("setScore " + ability + " " + score + "; setScore " + ability + " 8 = 20");
            }
        }
    }

    private static void pointsLeft() {
        check.sentence("6: Sets a score.");
        for (int ability = 0; ability < 4; ability++) {
            check.holds("setValue 0 0 " + ability + " NONE NONE; setNeeds 0 " + ability + " 16 NONE 0 NONE; setScore " + ability
                    + " 15 = 10; value 0 = 2; open = 254; setScore " + ability + " 16 = 8; value 0 = 3; open = 255; setScore "
                    + ability + " 17 = argument; value 0 = 3; setScore " + ability + " 8 = 20; value 0 = -1; open = 254; setScore "
                    + (ability + 1) % 4 + " 16 = 8; value 0 = -1; setScore " + ability + " 15 = state; value 0 = -1; open = 254");
        }
        check.sentence("6: Returns how many points are left then.");
        check.holds("setScore 0 8 = 20; setScore 0 9 = 19; setScore 1 12 = 15; setScore 2 13 = 9; setScore 2 13 = 9;"
                + "setScore 3 13 = 3; setScore 0 12 = 0; setScore 0 12 = 0; setScore 2 12 = 2; setScore 3 8 = 8;"
                + "setScore 3 14 = 0; setScore 3 8 = 8");
        check.sentence("6: Throws `IllegalStateException` if all scores would cost more than 20 points");
        check.holds("setScore 0 16 = 8; setScore 1 14 = 0; setScore 1 15 = state; setScore 1 16 = state;"
                + "setScore 2 9 = state; setScore 3 16 = state; setScore 2 8 = 0; setScore 1 13 = 2; setScore 2 11 = state;"
                + "setScore 2 10 = 0; setScore 3 9 = state");
        check.holds("setScore 0 16 = 8; setScore 1 13 = 2; setScore 1 15 = state; setScore 1 14 = 0; points = 0");
        check.holds("setScore 0 12; setScore 1 12; setScore 2 12; setScore 3 12 = 4; setScore 3 15 = state;"
                + "setScore 3 14 = 0; setScore 0 13 = state; setScore 3 13 = 2; setScore 0 13 = 0; points = 0");
        check.holds(States.FULL + "setScore 2 9 = state; setScore 0 16 = 0; setScore 0 15 = 2; setScore 2 10 = 0;"
                + "setScore 3 9 = state");
    }

    private static void levelArguments() {
        check.sentence("7: `calling`: 0 to 2");
        check.sentence("7: Throws `IndexOutOfBoundsException` if there is no such calling");
        refusedInAllStates("takeLevel", Ints.outside(0, 2), "");
        for (int calling = 0; calling < 3; calling++) {
            check.holds("takeLevel " + calling + " = 1; level " + calling + " = 1; loseLevel = " + calling);
            check.holds(States.RULED + "takeLevel " + calling + " = 5; loseLevel = " + calling + "; loseLevel = 0");
        }
    }

    private static void allLevels() {
        check.sentence("7: Takes a level.");
        check.holds("takeLevel 2 = 1; takeLevel 0 = 2; takeLevel 2 = 3; level 0 = 1; level 1 = 0; level 2 = 2; places = 2;"
                + "gifts = 0; loseLevel = 2; loseLevel = 0; loseLevel = 2");
        check.sentence("7: Returns the level of the character then.");
        check.sentence("7: Throws `IllegalStateException` if it has 8 levels");
        for (int calling = 0; calling < 3; calling++) {
            StringBuilder script = new StringBuilder();
            for (int level = 1; level <= 8; level++) {
                script.append("takeLevel ").append(calling).append(" = ").append(level).append(';');
            }
            check.holds(script + "takeLevel 0 = state; takeLevel 1 = state; takeLevel 2 = state; loseLevel = " + calling
                    + "; takeLevel 2 = 8; takeLevel 2 = state; level 2 = " + (calling == 2 ? 8 : 1));
            check.holds(States.FULL + "takeLevel " + calling + " = state; clear = 13; takeLevel " + calling + " = 1");
        }
        check.holds("7x takeLevel 0; takeLevel 1 = 8; takeLevel 1 = state; 8x loseLevel; loseLevel = state;"
                + "takeLevel 1 = 1; 6x takeLevel 1; takeLevel 1 = 8; takeLevel 1 = state");
    }

    private static void giftArguments() {
        check.sentence("8: `gift`: 0 to 7");
        check.sentence("8: Throws `IndexOutOfBoundsException` if there is no such gift");
        refusedInAllStates("takeGift", Ints.outside(0, 7), "");
        refusedInAllStates("takeGift", new int[] {32, 33, 39, 64, -24, -25, -32}, "");
        for (int gift = 0; gift < 8; gift++) {
            check.holds("takeGift " + gift + " = 1; gifts = " + (1 << gift) + "; takeGift " + gift + " = state");
        }
    }

    private static void giftsThatMayNotBeTaken() {
        check.sentence("8: Takes a gift.");
        check.holds("takeGift 2 = 1; gifts = 4; working = 4; level 0 = 0; stepAt 0 = 12; 2x takeLevel 0; takeGift 1 = 2;"
                + "gifts = 6; working = 6; stepAt 2 = 11; stepAt 3 = 12");
        // The needed gift must be the character's; the document does not ask that it works.
        check.holds("2x takeLevel 0; takeGift 3; setNeeds 3 0 9 NONE 0 NONE; setNeeds 2 NONE 0 NONE 0 3; open = 247;"
                + "takeGift 2 = 2; gifts = 12; working = 0; isLawful = false");
        check.sentence("8: Returns how many gifts the character has then.");
        check.holds("8x takeLevel 0; takeGift 7 = 1; takeGift 0 = 2; takeGift 6 = 3; takeGift 1 = 4; takeGift 5 = 5;"
                + "gifts = 227; takeGift 2 = state");
        check.sentence("8: Throws `IllegalStateException` if the character may not take it");
        check.holds("takeGift 0 = 1; takeGift 0 = state; takeGift 1 = state; takeLevel 0; takeGift 1 = state; takeLevel 0;"
                + "takeGift 0 = state; takeGift 1 = 2; takeGift 2 = state");
        for (int gift = 0; gift < 8; gift++) {
            check.holds(States.FULL + "takeGift " + gift + " = state");
            check.holds(States.FULL + "2x loseLevel; places = 4; takeGift " + gift + " = state");
            check.holds(States.FALLEN + "takeGift " + gift + " = state");
            check.holds("setNeeds " + gift + " 0 16 NONE 0 NONE; setScore 0 15; takeGift " + gift + " = state; setScore 0 16;"
                    + "takeGift " + gift + " = 1");
            check.holds("setNeeds " + gift + " NONE 0 1 8 NONE; 7x takeLevel 1; takeGift " + gift + " = state; takeLevel 1;"
                    + "takeGift " + gift + " = 1");
            check.holds("bar " + gift + " 1 0; takeLevel 1; takeGift " + gift + " = state; loseLevel; takeGift " + gift
                    + " = 1");
            check.holds("setNeeds " + gift + " NONE 0 NONE 0 " + gift + "; takeGift " + gift + " = state");
        }
        check.holds(States.RULED + "takeGift 4 = state; 2x takeLevel 1; takeGift 0 = state; takeGift 2 = 4; takeGift 4 = state");
        check.holds(States.RULED + "takeGift 4 = state; 2x takeLevel 1; takeGift 4 = 4; bonus 0 1 = -2; working = 58");
    }

    private static void lostLevels() {
        check.sentence("9: Loses the level that was taken last; gifts stay, but may work no more.");
        check.sentence("9: Returns the calling of that level.");
        check.holds("takeLevel 2; takeLevel 0; takeLevel 1; takeLevel 1; takeLevel 0; takeLevel 2; takeLevel 2; takeLevel 1;"
                + "loseLevel = 1; loseLevel = 2; loseLevel = 2; takeLevel 0 = 6; loseLevel = 0; loseLevel = 0; loseLevel = 1;"
                + "loseLevel = 1; loseLevel = 0; loseLevel = 2; loseLevel = state");
        check.holds(States.FULL + "setNeeds 3 NONE 0 2 2 NONE; setNeeds 4 NONE 0 2 1 NONE; setNeeds 5 NONE 0 1 3 NONE;"
                + "setNeeds 6 NONE 0 0 1 4; working = 248; loseLevel = 2; gifts = 248; working = 240; loseLevel = 2;"
                + "working = 160; loseLevel = 1; working = 128; 4x loseLevel; level 0 = 1; loseLevel = 0; level 0 = 0;"
                + "gifts = 248; working = 128; places = 1; loseLevel = state");
        check.holds("takeLevel 0; takeGift 0; bar 0 0 0; loseLevel = 0; gifts = 1; working = 1");
        check.holds(States.RULED + "loseLevel = 0; gifts = 42; working = 40; loseLevel = 2; gifts = 42; working = 40;"
                + "loseLevel = 0; gifts = 42; working = 40; loseLevel = 2; gifts = 42; working = 32; loseLevel = state");
        check.sentence("9: Throws `IllegalStateException` if there are no levels");
        check.holds("loseLevel = state; takeGift 0; loseLevel = state; takeLevel 2; loseLevel = 2; loseLevel = state;"
                + "3x takeLevel 1; clear = 4; loseLevel = state; takeLevel 0; loseLevel = 0; loseLevel = state");
        check.holds(States.RULES + "loseLevel = state");
    }

    private static void exchangeArguments() {
        check.sentence("10: `gift`: 0 to 7");
        check.sentence("10: `other`: 0 to 7");
        check.sentence("10: Throws `IndexOutOfBoundsException` if there is no such gift or other");
        refusedInAllStates("exchange", Ints.outside(0, 7), " 0");
        refusedInAllStates("exchange", new int[] {32, 35, 39, 64, -24, -29, -32}, " 0");
        refusedInAllStates("exchange 3", Ints.outside(0, 7), "");
        refusedInAllStates("exchange 7", new int[] {32, 35, 39, 64, -24, -29, -32}, "");
        for (int gift = 0; gift < 8; gift++) {
            for (int other = 0; other < 8; other++) {
                check.holds("takeGift " + gift + "; exchange " + gift + " " + other + " = " + (gift == other ? "state" : "0")
                        + "; gifts = " + (1 << other) + "; working = " + (1 << other) + "; stepAt 0 = " + (10 + other));
            }
        }
    }

    private static void exchanges() {
        check.sentence("10: Exchanges a gift for another one, if the character is lawful then.");
        check.holds(States.FULL + "exchange 3 0 = 0; gifts = 241; exchange 7 1 = 0; gifts = 115; exchange 0 2 = 0;"
                + "gifts = 118; working = 118; isLawful = true; places = 5; level 0 = 3; loseLevel = 2; exchange 1 0 = state");
        check.holds("setNeeds 1 0 12 NONE 0 NONE; setScore 0 12; takeGift 0; exchange 0 1 = 0; gifts = 2; working = 2");
        check.holds("setNeeds 1 NONE 0 2 1 NONE; takeLevel 2; takeGift 0; exchange 0 1 = 0; stepAt 0 = 2; stepAt 1 = 11");
        check.holds("bar 1 2 0; takeLevel 2; takeGift 0; open = 0; exchange 0 1 = 0; stepAt 0 = 11; stepAt 1 = 2;"
                + "gifts = 2; working = 2");
        check.holds("setNeeds 2 NONE 0 NONE 0 1; 2x takeLevel 0; takeGift 0; takeGift 1; exchange 0 2 = 0; gifts = 6;"
                + "working = 6; stepAt 2 = 11; stepAt 3 = 12");
        check.holds("2x takeLevel 0; takeGift 0; takeGift 1; setNeeds 0 NONE 0 NONE 0 7; isLawful = false;"
                + "exchange 0 2 = 0; isLawful = true; gifts = 6; working = 6");
        check.holds("2x takeLevel 0; takeGift 0; takeGift 1; setNeeds 0 NONE 0 NONE 0 7; isLawful = false; working = 2;"
                + "exchange 1 7 = 0; isLawful = true; gifts = 129; working = 129");
    }

    private static void refusedExchanges() {
        check.sentence("10: Throws `IllegalStateException` if the character does not have the gift, has the other one, or"
                + " would not be lawful");
        check.holds("exchange 0 1 = state; exchange 0 0 = state; exchange 7 7 = state");
        for (int gift = 0; gift < 8; gift++) {
            for (int other = 0; other < 8; other++) {
                boolean fine = gift >= 3 && other < 3;
                check.holds(States.FULL + "exchange " + gift + " " + other + " = " + (fine ? "0" : "state") + "; gifts = "
                        + (fine ? 248 - (1 << gift) + (1 << other) : 248));
                check.holds(States.FALLEN + "exchange " + gift + " " + other + " = state");
                check.holds(States.RINGS + "exchange " + gift + " " + other + " = state");
                check.holds(States.RULES + "exchange " + gift + " " + other + " = state");
            }
        }
    }

    private static void exchangesThatWouldNotBeLawful() {
        check.sentence("10: or would not be lawful");
        check.holds("setNeeds 1 0 12 NONE 0 NONE; setScore 0 11; takeGift 0; exchange 0 1 = state; setScore 0 12;"
                + "exchange 0 1 = 0");
        check.holds("setNeeds 1 NONE 0 2 8 NONE; 7x takeLevel 2; takeGift 0; exchange 0 1 = state; takeLevel 2;"
                + "exchange 0 1 = 0");
        check.holds("setNeeds 1 NONE 0 NONE 0 1; takeGift 0; exchange 0 1 = state");
        check.holds("setNeeds 1 NONE 0 NONE 0 0; takeGift 0; exchange 0 1 = state");
        check.holds("setNeeds 1 NONE 0 NONE 0 2; takeGift 0; exchange 0 1 = state");
        check.holds("2x takeLevel 0; takeGift 0; setNeeds 1 NONE 0 NONE 0 0; takeGift 1; exchange 0 2 = state;"
                + "exchange 1 2 = 0; exchange 0 3 = 0; gifts = 12");
        check.holds("bar 1 0 0; bar 2 0 0; 2x takeLevel 0; takeGift 0; takeGift 3; exchange 0 1 = 0; exchange 3 2 = state;"
                + "bar 2 0 1; exchange 3 2 = state; bar 2 0 2; exchange 3 2 = 0; gifts = 6; stepAt 0 = 11");
        check.holds("bar 1 0 0; setNeeds 1 NONE 0 0 1 NONE; takeLevel 0; takeGift 0; exchange 0 1 = state; bar 1 0 1;"
                + "exchange 0 1 = 0");
        check.holds("2x takeLevel 0; takeGift 0; takeGift 1; loseLevel; isLawful = false; exchange 0 2 = state;"
                + "takeLevel 1; exchange 0 2 = 0");
        check.holds("2x takeLevel 0; takeGift 0; takeGift 1; setNeeds 0 0 9 NONE 0 NONE; isLawful = false;"
                + "exchange 1 2 = state; exchange 0 2 = 0; isLawful = true");
    }

    private static void fallenByExchange() {
        check.sentence("10: Returns how many gifts of the character worked before and do not work then, that one not counted.");
        check.holds(States.RULED + "working = 42; exchange 3 7 = 0; working = 162; exchange 7 6 = 0; exchange 6 2 = 0;"
                + "gifts = 38; working = 38; exchange 1 3 = 0; exchange 5 6 = 0; gifts = 76");
        check.holds(States.RULED + "exchange 5 6 = state; exchange 5 7 = state; exchange 3 0 = state; exchange 3 4 = state;"
                + "working = 42");
        check.holds("2x takeLevel 0; takeGift 0; takeGift 1; setNeeds 0 0 9 NONE 0 NONE; working = 2; exchange 0 2 = 0;"
                + "working = 6");
    }

    private static void cleared() {
        check.sentence("11: Returns how many levels and gifts it had together.");
        check.holds("clear = 0; clear = 0; takeLevel 0; clear = 1; takeGift 0; clear = 1; takeLevel 2; takeGift 7; clear = 2;"
                + "8x takeLevel 1; clear = 8; clear = 0");
        check.holds(States.FULL + "clear = 13; clear = 0");
        check.holds(States.FALLEN + "clear = 6");
        check.holds(States.FULL + "8x loseLevel; clear = 5");
        check.holds(States.RULES + "clear = 0");
        check.sentence("11: Makes the character one without levels and gifts; scores and rules stay.");
        check.holds(States.FULL + "clear; level 0 = 0; level 1 = 0; level 2 = 0; gifts = 0; working = 0; open = 255;"
                + "places = 1; points = 0; attack = 0; isLawful = true; isLawfulByOrders = true; stepAt 0 = -1;"
                + "loseLevel = state; exchange 3 0 = state; setScore 2 9 = state; takeLevel 2 = 1; takeGift 7 = 1");
        check.holds(States.RULED + "clear = 7; points = 15; open = 228; isRing 3 = true; isRing 0 = false; value 2 = 49;"
                + "value 1 = 16; value 0 = 19; takeGift 5; takeLevel 0; takeLevel 0; takeGift 1 = 2; bonus 0 0 = 9");
        check.holds(States.RINGS + "clear = 13; open = 135; isRing 0 = true; value 0 = state; takeGift 7; value 5 = 9;"
                + "value 4 = 13; isLawful = true");
    }
}
