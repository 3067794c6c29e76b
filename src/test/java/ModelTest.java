import java.util.Arrays;
import java.util.function.IntSupplier;

/** Promises 1 to 24: long mixed runs, each answer compared with the model's. */
public final class ModelTest {

    private static final int RUNS = 1500;
    private static final int CALLS = 512;
    private static final Check check = new Check("ModelTest");

    private static long seed;
    private static int lawful = 0;
    private static int unlawful = 0;
    private static int exchanged = 0;

    public static void main(String[] args) {
        int wrong = 0;
        for (int run = 0; run < RUNS && wrong < 5; run++) {
            wrong += differences(run);
        }
        check.due("runs that differ", wrong, 0);
        check.due("there were many lawful ones", lawful > 10000, true);
        check.due("there were many unlawful ones", unlawful > 10000, true);
        check.due("there were many exchanges", exchanged > 1000, true);
        check.finish();
    }

    /** The same numbers in every run of this test. */
    private static int below(int bound) {
        seed = seed * 6364136223846793005L + 1442695040888963407L;
        return (int) ((seed >>> 33) % bound);
    }

    /** Mostly from least to greatest, now and then beside it. */
    private static int around(int least, int greatest) {
        int kind = below(60);
        if (kind == 0) {
            return least - 1;
        }
        if (kind == 1) {
            return greatest + 1;
        }
        return least + below(greatest - least + 1);
    }

    private static int mostlyNone(int greatest) {
        return below(3) > 0 ? -1 : around(-1, greatest);
    }

    private static String answer(IntSupplier call) {
        try {
            return Integer.toString(call.getAsInt());
        } catch (RuntimeException e) {
            return e.getClass().getSimpleName();
        }
    }

    /** One run: some lay rules all the time, some seldom, and some only at first. */
    private static int differences(int run) {
        seed = run;
        Rulesheet x = new Rulesheet();
        Model m = new Model();
        int focus = below(3);
        for (int call = 0; call < CALLS; call++) {
            int kind = below(focus == 0 ? 24 : 34);
            int[] n = new int[6];
            boolean rulesAreLaid = focus == 2 && call > 60;
            String[] answers = answers(x, m, kind < 8 && rulesAreLaid ? 8 + below(26) : kind, n);
            if (!answers[0].equals(answers[1])) {
                System.out.println("ModelTest: run " + run + ", call " + call + " (kind " + kind + " "
                        + Arrays.toString(n) + ") answered " + answers[0] + ", due is " + answers[1]);
                return 1;
            }
        }
        return 0;
    }

    private static int none(Runnable call) {
        call.run();
        return 0;
    }

    private static String[] both(IntSupplier ofObject, IntSupplier ofModel) {
        return new String[] {answer(ofObject), answer(ofModel)};
    }

    private static String[] answers(Rulesheet x, Model m, int kind, int[] n) {
        switch (kind) {
            case 0:
                n[0] = around(0, 7);
                n[1] = mostlyNone(3);
                n[2] = around(8, 16);
                n[3] = mostlyNone(2);
                n[4] = below(2) == 0 ? around(1, 3) : around(1, 8);
                n[5] = mostlyNone(7);
                return both(() -> none(() -> x.setNeeds(n[0], n[1], n[2], n[3], n[4], n[5])),
                        () -> none(() -> m.setNeeds(n[0], n[1], n[2], n[3], n[4], n[5])));
            case 1:
                n[0] = around(0, 7);
                n[1] = around(-1, 2);
                n[2] = around(0, below(2) == 0 ? 2 : 7);
                return both(() -> none(() -> x.bar(n[0], n[1], n[2])), () -> none(() -> m.bar(n[0], n[1], n[2])));
            case 2:
            case 3:
                n[0] = around(0, 7);
                n[1] = around(-1, below(2));
                n[2] = around(0, 3);
                n[3] = around(-9, 9);
                return both(() -> none(() -> x.setBonus(n[0], n[1], n[2], n[3])),
                        () -> none(() -> m.setBonus(n[0], n[1], n[2], n[3])));
            case 4:
            case 5:
                n[0] = around(0, 5);
                n[1] = around(-50, 50);
                n[2] = around(-1, 3);
                n[3] = around(-1, 2);
                n[4] = mostlyNone(5);
                return both(() -> none(() -> x.setValue(n[0], n[1], n[2], n[3], n[4])),
                        () -> none(() -> m.setValue(n[0], n[1], n[2], n[3], n[4])));
            case 6:
                n[0] = around(0, 3);
                n[1] = around(8, 16);
                return both(() -> x.setScore(n[0], n[1]), () -> m.setScore(n[0], n[1]));
            case 7:
                n[0] = below(20);
                return n[0] > 0 ? both(x::places, m::places) : both(x::clear, m::clear);
            case 8:
                return both(x::loseLevel, m::loseLevel);
            case 9:
            case 10:
            case 24:
                n[0] = around(0, 2);
                return both(() -> x.takeLevel(n[0]), () -> m.takeLevel(n[0]));
            case 11:
            case 12:
            case 25:
                n[0] = around(0, 7);
                return both(() -> x.takeGift(n[0]), () -> m.takeGift(n[0]));
            case 13:
            case 26:
                n[0] = around(0, 7);
                n[1] = around(0, 7);
                String[] answers = both(() -> x.exchange(n[0], n[1]), () -> m.exchange(n[0], n[1]));
                exchanged += answers[1].equals("0") ? 1 : 0;
                return answers;
            case 14:
                n[0] = around(0, 2);
                return both(() -> x.level(n[0]), () -> m.level(n[0]));
            case 15:
                return both(x::gifts, m::gifts);
            case 16:
                return both(x::working, m::working);
            case 17:
                return both(x::open, m::open);
            case 18:
                return both(x::points, m::points);
            case 19:
            case 27:
                n[0] = around(0, 5);
                return both(() -> x.value(n[0]), () -> m.value(n[0]));
            case 20:
            case 28:
                n[0] = around(0, below(2) * 4 + 1);
                n[1] = around(0, 3);
                return both(() -> x.bonus(n[0], n[1]), () -> m.bonus(n[0], n[1]));
            case 21:
                n[0] = around(0, 5);
                return both(() -> x.isRing(n[0]) ? 1 : 0, () -> m.isRing(n[0]) ? 1 : 0);
            case 22:
                return both(x::attack, m::attack);
            case 23:
            case 29:
                String[] told = both(() -> x.isLawful() ? 1 : 0, () -> m.isLawful() ? 1 : 0);
                lawful += told[1].equals("1") ? 1 : 0;
                unlawful += told[1].equals("0") ? 1 : 0;
                return told;
            case 30:
                return both(() -> x.isLawfulByOrders() ? 1 : 0, () -> m.isLawfulByOrders() ? 1 : 0);
            default:
                n[0] = around(0, 13);
                return both(() -> x.stepAt(n[0]), () -> m.stepAt(n[0]));
        }
    }
}
