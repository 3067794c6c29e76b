/** Promises 22 to 24: lawful characters and their orders. */
public final class OrdersTest {

    private static final int NONE = Rulesheet.NONE;
    private static final Check check = new Check("OrdersTest");

    public static void main(String[] args) {
        empty();
        levelsAlone();
        barsAgainstNeeds();
        placesOnTheWay();
        giftsOneByOne();
        manySteps();
        allSetsOfGifts();
        wrongSteps();
        questionsOneAfterAnother();
        check.finish();
    }

    private static void lawful(String what, Rulesheet x, String order) {
        check.due("22: " + what, x.isLawful(), true);
        check.due("24: " + what, Snapshot.order(x), order);
        if (order.split(" ").length - 1 <= 8) {
            check.due("23: " + what, x.isLawfulByOrders(), true);
        }
    }

    private static void unlawful(String what, Rulesheet x) {
        check.due("22: " + what, x.isLawful(), false);
        check.due("23: " + what, x.isLawfulByOrders(), false);
        check.illegalState("24: " + what, () -> x.stepAt(0));
        check.illegalState("24: behind the end, " + what, () -> x.stepAt(Integer.MAX_VALUE));
    }

    private static void empty() {
        Rulesheet x = new Rulesheet();
        lawful("without anything", x, "");
        check.due("24: the first of no steps", x.stepAt(0), NONE);
        check.due("24: the last int", x.stepAt(Integer.MAX_VALUE), NONE);
    }

    private static void levelsAlone() {
        Rulesheet x = new Rulesheet();
        int[] callings = {2, 1, 0, 2, 1, 0, 0, 2};
        for (int calling : callings) {
            x.takeLevel(calling);
        }
        lawful("levels alone", x, " 0 0 0 1 1 2 2 2");
        check.due("24: the last step", x.stepAt(7), 2);
        check.due("24: behind the last step", x.stepAt(8), NONE);
    }

    private static void barsAgainstNeeds() {
        Rulesheet x = new Rulesheet();
        x.takeLevel(0);
        x.takeLevel(0);
        x.takeLevel(1);
        x.takeGift(5);
        x.takeGift(4);
        lawful("any order", x, " 0 0 1 14 15");
        x.bar(4, 1, 0);
        lawful("4 ahead of the calling 1", x, " 0 0 14 1 15");
        x.bar(5, 0, 0);
        lawful("5 ahead of the calling 0, too", x, " 15 0 0 14 1");
        x.bar(4, 0, 1);
        lawful("4 ahead of the second level in the calling 0", x, " 1 15 0 14 0");
        x.bar(4, NONE, 0);
        lawful("5 ahead of the calling 0, 4 anywhere", x, " 1 15 0 0 14");
        x.setNeeds(5, NONE, 0, NONE, 0, 4);
        unlawful("4 would have to be there for 5", x);
        x.bar(5, 0, 1);
        lawful("both after two levels", x, " 0 1 14 15 0");
        x.setNeeds(4, NONE, 0, 0, 2, NONE);
        unlawful("4 is too late for 5", x);
    }

    private static void placesOnTheWay() {
        Rulesheet x = new Rulesheet();
        x.takeLevel(0);
        x.takeLevel(1);
        x.takeGift(6);
        x.takeGift(7);
        lawful("two places", x, " 0 1 16 17");
        x.bar(6, 0, 0);
        x.bar(7, 1, 0);
        unlawful("the second place comes too late", x);
        x.loseLevel();
        x.bar(6, NONE, 0);
        x.bar(7, NONE, 0);
        unlawful("more gifts than places", x);
        x.takeLevel(2);
        lawful("places again", x, " 0 2 16 17");
    }

    private static void giftsOneByOne() {
        Rulesheet x = new Rulesheet();
        for (int level = 0; level < 4; level++) {
            x.takeLevel(2);
        }
        x.takeGift(1);
        x.takeGift(3);
        x.takeGift(0);
        lawful("lower gifts first", x, " 2 2 2 2 10 11 13");
        x.setNeeds(0, NONE, 0, NONE, 0, 3);
        x.setNeeds(1, NONE, 0, NONE, 0, 0);
        lawful("needed gifts first", x, " 2 2 2 2 13 10 11");
        x.bar(3, 2, 2);
        lawful("a barred one in between", x, " 2 2 13 2 2 10 11");
        x.setNeeds(3, 1, 9, NONE, 0, NONE);
        unlawful("the scores as they are now", x);
        x.setScore(1, 9);
        lawful("a score that is enough now", x, " 2 2 13 2 2 10 11");
        x.setNeeds(3, 1, 9, 2, 3, NONE);
        unlawful("a need above its bar", x);
    }

    private static void manySteps() {
        Rulesheet x = new Rulesheet();
        for (int level = 0; level < 8; level++) {
            x.takeLevel(level % 3);
        }
        lawful("eight levels", x, " 0 0 0 1 1 1 2 2");
        x.takeGift(7);
        check.illegalState("23: nine steps", x::isLawfulByOrders);
        for (int gift = 6; gift >= 3; gift--) {
            x.takeGift(gift);
        }
        lawful("thirteen steps", x, " 0 0 0 1 1 1 2 2 13 14 15 16 17");
        check.illegalState("23: thirteen steps", x::isLawfulByOrders);
        x.bar(7, 0, 0);
        x.bar(6, 1, 0);
        x.bar(5, 2, 1);
        x.setNeeds(5, NONE, 0, NONE, 0, 6);
        lawful("thirteen steps with bars", x, " 2 16 1 1 1 13 17 0 0 0 15 2 14");
        x.bar(5, 2, 0);
        lawful("thirteen steps with lower bars", x, " 16 1 1 1 15 2 2 17 0 0 0 13 14");
        x.setNeeds(6, NONE, 0, 2, 1, NONE);
        check.due("22: thirteen steps without an order", x.isLawful(), false);
        check.illegalState("23: too many steps, though not lawful", x::isLawfulByOrders);
    }

    private static void allSetsOfGifts() {
        for (int set = 0; set < 256; set++) {
            if (Integer.bitCount(set) > 5) {
                continue;
            }
            Rulesheet x = new Rulesheet();
            StringBuilder order = new StringBuilder();
            for (int level = 0; level < 8; level++) {
                x.takeLevel(1);
                order.append(" 1");
            }
            for (int gift = 0; gift < 8; gift++) {
                if ((set >> gift & 1) != 0) {
                    x.takeGift(gift);
                    order.append(' ').append(10 + gift);
                }
            }
            lawful("the gifts " + set, x, order.toString());
        }
    }

    /** What one search leaves behind must not reach the next one. */
    private static void questionsOneAfterAnother() {
        Rulesheet x = new Rulesheet();
        x.takeGift(4);
        x.takeLevel(1);
        x.bar(4, 1, 0);
        for (int step = 2; step >= 0; step--) {
            check.due("24: step " + step, x.stepAt(step), new int[] {14, 1, NONE}[step]);
            check.due("23: behind step " + step, x.isLawfulByOrders(), true);
            check.due("24: again " + step, x.stepAt(step), new int[] {14, 1, NONE}[step]);
            check.due("22: behind step " + step, x.isLawful(), true);
        }
        check.illegalState("10: an exchange that is tried", () -> x.exchange(4, 4));
        x.setNeeds(5, NONE, 0, 1, 2, NONE);
        check.illegalState("10: an exchange for what has no order", () -> x.exchange(4, 5));
        check.due("23: behind an exchange", x.isLawfulByOrders(), true);
        x.bar(4, NONE, 0);
        x.setNeeds(4, NONE, 0, 1, 2, NONE);
        unlawful("rules hold at once", x);
    }

    private static void wrongSteps() {
        Rulesheet x = new Rulesheet();
        for (int wrong : new int[] {-1, Integer.MIN_VALUE}) {
            check.outOfBounds("24: step " + wrong, () -> x.stepAt(wrong));
        }
        x.takeGift(0);
        x.setNeeds(0, NONE, 0, NONE, 0, 0);
        check.outOfBounds("24: a step below 0 of an unlawful one", () -> x.stepAt(-1));
        unlawful("a gift that needs itself", x);
    }
}
