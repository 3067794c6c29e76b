/** Promises 6 to 11: what is done to the character. */
public final class CharacterTest {

    private static final int NONE = Rulesheet.NONE;
    private static final Check check = new Check("CharacterTest");

    public static void main(String[] args) {
        scores();
        wrongScores();
        levels();
        gifts();
        wrongGifts();
        lostLevels();
        exchanges();
        wrongExchanges();
        exchangesOfUnlawful();
        cleared();
        check.finish();
    }

    private static void scores() {
        int[] left = {20, 19, 18, 17, 16, 14, 12, 10, 8};
        for (int ability = 0; ability < 4; ability++) {
            Rulesheet x = new Rulesheet();
            for (int score = 8; score <= 16; score++) {
                check.due("6: score " + score, x.setScore(ability, score), left[score - 8]);
                check.due("17: points with score " + score, x.points(), left[score - 8]);
            }
            check.due("6: back to 8", x.setScore(ability, 8), 20);
        }
        Rulesheet x = new Rulesheet();
        x.setScore(0, 12);
        x.setScore(1, 12);
        x.setScore(2, 12);
        check.due("6: what all scores cost together", x.setScore(3, 13), 2);
        check.due("6: a lower score", x.setScore(0, 10), 4);
    }

    private static void wrongScores() {
        Rulesheet x = new Rulesheet();
        x.setScore(0, 16);
        x.setScore(1, 14);
        check.due("6: all points are spent", x.points(), 0);
        check.illegalState("6: one point too dear", () -> x.setScore(2, 9));
        check.illegalState("6: two points too dear", () -> x.setScore(1, 15));
        check.due("6: the same score again", x.setScore(1, 14), 0);
        for (int wrong : new int[] {-1, 4, Integer.MIN_VALUE, Integer.MAX_VALUE}) {
            check.outOfBounds("6: ability " + wrong, () -> x.setScore(wrong, 17));
        }
        for (int wrong : new int[] {7, 17, -1, Integer.MIN_VALUE, Integer.MAX_VALUE}) {
            check.illegalArgument("6: score " + wrong, () -> x.setScore(3, wrong));
        }
    }

    private static void levels() {
        Rulesheet x = new Rulesheet();
        for (int level = 1; level <= 8; level++) {
            check.due("7: level " + level, x.takeLevel(level % 3), level);
            check.due("7: in its calling", x.level(level % 3), (level + 2) / 3);
        }
        for (int calling = 0; calling < 3; calling++) {
            int last = calling;
            check.illegalState("7: a ninth level", () -> x.takeLevel(last));
        }
        for (int wrong : new int[] {-1, 3, Integer.MIN_VALUE, Integer.MAX_VALUE}) {
            check.outOfBounds("7: calling " + wrong, () -> x.takeLevel(wrong));
        }
        x.loseLevel();
        check.due("7: the eighth again", x.takeLevel(2), 8);
    }

    private static void gifts() {
        Rulesheet x = new Rulesheet();
        check.due("8: the first gift", x.takeGift(7), 1);
        check.illegalState("8: no place", () -> x.takeGift(0));
        x.takeLevel(0);
        check.illegalState("8: no place with a level of 1", () -> x.takeGift(0));
        x.takeLevel(1);
        check.illegalState("8: a gift that it has", () -> x.takeGift(7));
        check.due("8: the second gift", x.takeGift(0), 2);
        check.due("13: both gifts", x.gifts(), 129);
        x.loseLevel();
        x.takeLevel(1);
        x.takeLevel(1);
        x.takeLevel(1);
        for (int gift = 3; gift <= 5; gift++) {
            if (gift > 3) {
                x.takeLevel(2);
                x.takeLevel(2);
            }
            check.due("8: gift " + gift, x.takeGift(gift), gift);
        }
        check.illegalState("8: a sixth gift", () -> x.takeGift(6));
    }

    private static void wrongGifts() {
        Rulesheet x = new Rulesheet();
        for (int wrong : new int[] {-1, 8, 32, Integer.MIN_VALUE, Integer.MAX_VALUE}) {
            check.outOfBounds("8: gift " + wrong, () -> x.takeGift(wrong));
        }
        x.setNeeds(0, 0, 9, NONE, 0, NONE);
        x.setNeeds(1, NONE, 0, 0, 1, NONE);
        x.setNeeds(2, NONE, 0, NONE, 0, 3);
        x.takeLevel(1);
        x.bar(3, 1, 0);
        for (int gift = 0; gift < 4; gift++) {
            int closed = gift;
            check.illegalState("8: closed gift " + gift, () -> x.takeGift(closed));
        }
        x.bar(3, 1, 1);
        x.takeGift(3);
        x.takeLevel(1);
        x.setNeeds(3, 0, 9, NONE, 0, NONE);
        check.due("8: the needed gift need not work", x.takeGift(2), 2);
        check.due("14: neither works", x.working(), 0);
    }

    private static void lostLevels() {
        Rulesheet x = new Rulesheet();
        check.illegalState("9: no level", x::loseLevel);
        int[] callings = {2, 0, 1, 1, 0, 2, 2, 0};
        for (int calling : callings) {
            x.takeLevel(calling);
        }
        x.setNeeds(6, NONE, 0, 0, 3, NONE);
        x.takeGift(6);
        x.takeGift(5);
        check.due("9: both work", x.working(), 96);
        for (int at = 7; at >= 0; at--) {
            int before = x.level(callings[at]);
            check.due("9: the calling of level " + at, x.loseLevel(), callings[at]);
            check.due("9: the level in it", x.level(callings[at]), before - 1);
            check.due("9: gifts stay", x.gifts(), 96);
            check.due("9: but work no more", x.working(), 32);
        }
        check.illegalState("9: no level again", x::loseLevel);
        check.due("9: a level after that", x.takeLevel(1), 1);
    }

    private static void exchanges() {
        Rulesheet x = new Rulesheet();
        x.takeLevel(0);
        x.takeLevel(1);
        x.takeGift(0);
        x.takeGift(1);
        check.due("10: an exchange", x.exchange(0, 7), 0);
        check.due("10: the gifts then", x.gifts(), 130);
        check.due("10: and back", x.exchange(7, 0), 0);
        x.bar(2, 1, 0);
        check.due("10: one that may not be taken now, but might have been", x.exchange(0, 2), 0);
        check.due("10: its order", Snapshot.order(x), " 0 12 1 11");
        x.setNeeds(1, NONE, 0, NONE, 0, 2);
        check.due("10: the gifts with one that needs another", x.working(), 6);
        check.illegalState("10: the one that is needed", () -> x.exchange(2, 3));
        check.due("10: the one that needs", x.exchange(1, 3), 0);
    }

    private static void wrongExchanges() {
        Rulesheet x = new Rulesheet();
        x.takeLevel(0);
        x.takeLevel(0);
        x.takeGift(0);
        x.takeGift(1);
        for (int wrong : new int[] {-1, 8, 32, Integer.MIN_VALUE, Integer.MAX_VALUE}) {
            check.outOfBounds("10: gift " + wrong, () -> x.exchange(wrong, 0));
            check.outOfBounds("10: other " + wrong, () -> x.exchange(2, wrong));
        }
        check.illegalState("10: a gift that it does not have", () -> x.exchange(2, 3));
        check.illegalState("10: another that it has", () -> x.exchange(0, 1));
        check.illegalState("10: for itself", () -> x.exchange(0, 0));
        x.setNeeds(4, 3, 9, NONE, 0, NONE);
        x.setNeeds(5, NONE, 0, 2, 1, NONE);
        x.setNeeds(6, NONE, 0, NONE, 0, 0);
        check.illegalState("10: a score too low", () -> x.exchange(0, 4));
        check.illegalState("10: a level too low", () -> x.exchange(0, 5));
        check.illegalState("10: one that needs the one given", () -> x.exchange(0, 6));
        check.due("10: one that needs the one kept", x.exchange(1, 6), 0);
    }

    private static void exchangesOfUnlawful() {
        Rulesheet x = new Rulesheet();
        x.takeLevel(0);
        x.takeLevel(0);
        x.takeGift(0);
        x.takeGift(1);
        x.setNeeds(0, 0, 9, NONE, 0, NONE);
        check.due("10: unlawful before", x.isLawful(), false);
        check.illegalState("10: unlawful then, too", () -> x.exchange(1, 2));
        check.due("10: lawful by the exchange", x.exchange(0, 2), 0);
        check.due("10: lawful then", x.isLawful(), true);
        x.loseLevel();
        check.illegalState("10: more gifts than places", () -> x.exchange(1, 3));
    }

    private static void cleared() {
        Rulesheet x = new Rulesheet();
        check.due("11: nothing to clear", x.clear(), 0);
        x.setScore(1, 12);
        x.setNeeds(4, 0, 9, NONE, 0, NONE);
        x.takeLevel(0);
        x.takeLevel(2);
        x.takeGift(3);
        x.takeGift(6);
        x.setBonus(6, 2, 0, 5);
        check.due("11: levels and gifts", x.clear(), 4);
        check.due("11: no levels", x.level(0) + x.level(1) + x.level(2), 0);
        check.due("11: no gifts", x.gifts(), 0);
        check.due("11: one place", x.places(), 1);
        check.due("11: scores stay", x.points(), 16);
        check.due("11: rules stay", x.open(), 239);
        check.illegalState("11: no level to lose", x::loseLevel);
        x.takeGift(6);
        check.due("11: bonuses stay", x.bonus(2, 0), 5);
        check.due("11: again", x.clear(), 1);
    }
}
