import java.lang.management.ManagementFactory;

/** That calls make nothing that stays in the room, but for the exceptions that are due. */
public final class RoomTest {

    private static final Check check = new Check("RoomTest");
    private static final int OBJECTS = 20;

    /** Of 17 calls, so that an object sees fewer than 512. */
    private static final int ROUNDS = 26;

    private static final long MOST_BYTES = 64 * 1024;

    private static int sum = 0;

    public static void main(String[] args) {
        com.sun.management.ThreadMXBean threads =
                (com.sun.management.ThreadMXBean) ManagementFactory.getThreadMXBean();
        long self = Thread.currentThread().getId();
        Rulesheet[] hardest = new Rulesheet[OBJECTS];
        for (int at = 0; at < OBJECTS; at++) {
            hardest[at] = hardest();
            askAll(hardest[at]);
        }
        long before = threads.getThreadAllocatedBytes(self);
        for (int call = 0; call < OBJECTS * ROUNDS; call++) {
            askAll(hardest[call % OBJECTS]);
        }
        long made = threads.getThreadAllocatedBytes(self) - before;
        check.due("bytes made by many calls are few", made < MOST_BYTES ? "few" : made + " bytes", "few");
        before = threads.getThreadAllocatedBytes(self);
        Rulesheet[] many = new Rulesheet[100];
        for (int at = 0; at < many.length; at++) {
            many[at] = new Rulesheet();
            sum += many[at].places();
        }
        made = threads.getThreadAllocatedBytes(self) - before;
        check.due("a new object is small", made < 100 * 8 * 1024 ? "small" : made + " bytes for 100", "small");
        check.due("the calls were made", sum > 0, true);
        check.finish();
    }

    /** As many stages as there can be, and none of them leads to the end but by its last steps. */
    private static Rulesheet hardest() {
        Rulesheet x = new Rulesheet();
        for (int level = 0; level < 8; level++) {
            x.takeLevel(level % 3);
        }
        for (int gift = 3; gift < 8; gift++) {
            x.takeGift(gift);
            x.setBonus(gift, 0, gift % 4, 3);
        }
        x.setNeeds(7, -1, 0, 2, 2, -1);
        x.setValue(0, 0, 0, 0, 1);
        return x;
    }

    private static void askAll(Rulesheet x) {
        sum += x.isLawful() ? 1 : 0;
        sum += x.stepAt(12) + x.working() + x.open() + x.value(0) + x.bonus(0, 3) + x.attack();
        sum += x.exchange(7, 0) + x.exchange(0, 7) + x.loseLevel() + x.takeLevel(1) + x.loseLevel() + x.takeLevel(1);
        sum += x.setScore(0, 9) + x.points() + x.gifts() + x.level(2);
    }
}
