import java.util.Arrays;

/** A maker of characters by rules; README.md tells how it is used. */
public final class Rulesheet {

    public static final int NONE = -1;

    private static final int ABILITIES = 4;
    private static final int CALLINGS = 3;
    private static final int GIFTS = 8;
    private static final int VALUES = 6;
    private static final int KINDS = 4;

    private static final int LEAST_SCORE = 8;
    private static final int GREATEST_SCORE = 16;
    private static final int GREATEST_CHEAP_SCORE = 12;
    private static final int MOST_POINTS = 20;
    private static final int MOST_LEVELS = 8;
    private static final int GREATEST_AMOUNT = 9;
    private static final int GREATEST_BASE = 50;

    /** The kind whose bonuses add up. */
    private static final int ADDING_KIND = 0;

    /** Inside, a step is a calling or CALLINGS and a gift, so that the lower number is the one to try first. */
    private static final int STEPS = CALLINGS + GIFTS;
    private static final int TOLD_GIFT_STEP = 10;
    private static final int MOST_ORDERED = 8;

    /** The 256 sets of gifts are kept as the bits of ints. */
    private static final int SETS_IN_A_WORD = 32;
    private static final int WORDS = (1 << GIFTS) / SETS_IN_A_WORD;

    /** 8 levels are split best as 3, 3 and 2, so that (3 + 1) * (3 + 1) * (2 + 1) lead up to them. */
    private static final int MOST_LEVEL_STAGES = 48;

    private final GiftRules giftRules = new GiftRules();
    private final ValueRules valueRules = new ValueRules();
    private final int[] scores = new int[ABILITIES];
    private final Build character = new Build();

    /** The callings of the character's levels, in the order in which they were taken. */
    private final int[] taken = new int[MOST_LEVELS];
    private int takenCount = 0;

    /** A character on its way, while orders are looked for; between calls it means nothing. */
    private final Build trial = new Build();

    /** A bit for each stage from which the goal of the last search can be reached. */
    private final int[] endings = new int[MOST_LEVEL_STAGES * WORDS];

    /** What each gift needs, what bars it and what bonus it gives. */
    private static final class GiftRules {
        final int[] ability = new int[GIFTS];
        final int[] score = new int[GIFTS];
        final int[] calling = new int[GIFTS];
        final int[] level = new int[GIFTS];
        final int[] other = new int[GIFTS];
        final int[] barCalling = new int[GIFTS];
        final int[] barLevel = new int[GIFTS];
        final int[] bonusValue = new int[GIFTS];
        final int[] bonusKind = new int[GIFTS];
        final int[] bonusAmount = new int[GIFTS];

        GiftRules() {
            Arrays.fill(ability, NONE);
            Arrays.fill(calling, NONE);
            Arrays.fill(other, NONE);
            Arrays.fill(barCalling, NONE);
            Arrays.fill(bonusValue, NONE);
        }
    }

    /** What each value is made of. */
    private static final class ValueRules {
        final int[] base = new int[VALUES];
        final int[] ability = new int[VALUES];
        final int[] calling = new int[VALUES];
        final int[] other = new int[VALUES];

        ValueRules() {
            Arrays.fill(ability, NONE);
            Arrays.fill(calling, NONE);
            Arrays.fill(other, NONE);
        }
    }

    /** Levels and gifts: those of the character, or of a character on the way to it. */
    private static final class Build {
        final int[] levels = new int[CALLINGS];
        int held = 0;

        void empty() {
            Arrays.fill(levels, 0);
            held = 0;
        }

        boolean has(int gift) {
            return (held >> gift & 1) != 0;
        }

        int heldCount() {
            return Integer.bitCount(held);
        }

        int levelIn(int calling) {
            return calling >= 0 && calling < CALLINGS ? levels[calling] : 0;
        }

        int levelInAll() {
            int sum = 0;
            for (int calling = 0; calling < CALLINGS; calling++) {
                sum += levels[calling];
            }
            return sum;
        }

        void changeLevel(int calling, int change) {
            if (isAmong(calling, CALLINGS)) {
                levels[calling] += change;
            }
        }

        void goOn(int step) {
            if (step >= CALLINGS) {
                held |= 1 << (step - CALLINGS);
            } else {
                changeLevel(step, 1);
            }
        }

        void goBack(int step) {
            if (step >= CALLINGS) {
                held &= ~(1 << (step - CALLINGS));
            } else {
                changeLevel(step, -1);
            }
        }
    }

    public Rulesheet() {
        Arrays.fill(scores, LEAST_SCORE);
    }

    // ---- rules

    public void setNeeds(int gift, int ability, int score, int calling, int level, int other)
            throws IndexOutOfBoundsException, IllegalArgumentException {
        if (!isAmong(gift, GIFTS) || !isAmongOrNone(ability, ABILITIES)
                || !isAmongOrNone(calling, CALLINGS) || !isAmongOrNone(other, GIFTS)) {
            throw new IndexOutOfBoundsException("no such gift, ability, calling or other");
        }
        if (ability != NONE && !isFromTo(score, LEAST_SCORE, GREATEST_SCORE)) {
            throw new IllegalArgumentException("the score is out of range");
        }
        if (calling != NONE && !isFromTo(level, 1, MOST_LEVELS)) {
            throw new IllegalArgumentException("the level is out of range");
        }
        giftRules.ability[gift] = ability;
        giftRules.score[gift] = score;
        giftRules.calling[gift] = calling;
        giftRules.level[gift] = level;
        giftRules.other[gift] = other;
    }

    public void bar(int gift, int calling, int level)
            throws IndexOutOfBoundsException, IllegalArgumentException {
        if (!isAmong(gift, GIFTS) || !isAmongOrNone(calling, CALLINGS)) {
            throw new IndexOutOfBoundsException("no such gift or calling");
        }
        if (calling != NONE && !isFromTo(level, 0, MOST_LEVELS - 1)) {
            throw new IllegalArgumentException("the level is out of range");
        }
        giftRules.barCalling[gift] = calling;
        giftRules.barLevel[gift] = level;
    }

    public void setBonus(int gift, int value, int kind, int amount)
            throws IndexOutOfBoundsException, IllegalArgumentException {
        if (!isAmong(gift, GIFTS) || !isAmongOrNone(value, VALUES)) {
            throw new IndexOutOfBoundsException("no such gift or value");
        }
        if (!isAmong(kind, KINDS) || !isFromTo(amount, -GREATEST_AMOUNT, GREATEST_AMOUNT)) {
            throw new IllegalArgumentException("the kind or the amount is out of range");
        }
        giftRules.bonusValue[gift] = value;
        giftRules.bonusKind[gift] = kind;
        giftRules.bonusAmount[gift] = amount;
    }

    public void setValue(int value, int base, int ability, int calling, int other)
            throws IndexOutOfBoundsException, IllegalArgumentException {
        if (!isAmong(value, VALUES) || !isAmongOrNone(ability, ABILITIES)
                || !isAmongOrNone(calling, CALLINGS) || !isAmongOrNone(other, VALUES)) {
            throw new IndexOutOfBoundsException("no such value, ability, calling or other");
        }
        if (!isFromTo(base, -GREATEST_BASE, GREATEST_BASE)) {
            throw new IllegalArgumentException("the base is out of range");
        }
        valueRules.base[value] = base;
        valueRules.ability[value] = ability;
        valueRules.calling[value] = calling;
        valueRules.other[value] = other;
    }

    // ---- the character

    public int setScore(int ability, int score)
            throws IndexOutOfBoundsException, IllegalArgumentException, IllegalStateException {
        if (!isAmong(ability, ABILITIES)) {
            throw new IndexOutOfBoundsException("no such ability");
        }
        if (!isFromTo(score, LEAST_SCORE, GREATEST_SCORE)) {
            throw new IllegalArgumentException("the score is out of range");
        }
        int left = pointsLeft() + costOf(scores[ability]) - costOf(score);
        if (left < 0) {
            throw new IllegalStateException("all scores would cost too much");
        }
        scores[ability] = score;
        return left;
    }

    public int takeLevel(int calling) throws IndexOutOfBoundsException, IllegalStateException {
        if (!isAmong(calling, CALLINGS)) {
            throw new IndexOutOfBoundsException("no such calling");
        }
        if (!isAmong(takenCount, MOST_LEVELS)) {
            throw new IllegalStateException("the character has all levels");
        }
        taken[takenCount] = calling;
        takenCount++;
        character.changeLevel(calling, 1);
        return takenCount;
    }

    public int takeGift(int gift) throws IndexOutOfBoundsException, IllegalStateException {
        if (!isAmong(gift, GIFTS)) {
            throw new IndexOutOfBoundsException("no such gift");
        }
        if (!mayTake(character, gift)) {
            throw new IllegalStateException("the character may not take the gift");
        }
        character.held |= 1 << gift;
        return character.heldCount();
    }

    public int loseLevel() throws IllegalStateException {
        int last = takenCount - 1;
        if (!isAmong(last, MOST_LEVELS)) {
            throw new IllegalStateException("there are no levels");
        }
        takenCount = last;
        character.changeLevel(taken[last], -1);
        return taken[last];
    }

    public int exchange(int gift, int other) throws IndexOutOfBoundsException, IllegalStateException {
        if (!isAmong(gift, GIFTS) || !isAmong(other, GIFTS)) {
            throw new IndexOutOfBoundsException("no such gift or other");
        }
        int exchanged = (character.held & ~(1 << gift)) | 1 << other;
        if (!character.has(gift) || character.has(other) || !canReach(exchanged)) {
            throw new IllegalStateException("the gift can't be exchanged for the other");
        }
        int fallen = workingAmong(character.held) & ~workingAmong(exchanged) & ~(1 << gift);
        character.held = exchanged;
        return Integer.bitCount(fallen);
    }

    public int clear() {
        int had = stepCount();
        character.empty();
        takenCount = 0;
        return had;
    }

    // ---- questions

    public int level(int calling) throws IndexOutOfBoundsException {
        if (!isAmong(calling, CALLINGS)) {
            throw new IndexOutOfBoundsException("no such calling");
        }
        return character.levelIn(calling);
    }

    public int gifts() {
        return character.held;
    }

    public int working() {
        return workingAmong(character.held);
    }

    public int open() {
        int set = 0;
        for (int gift = 0; gift < GIFTS; gift++) {
            if (mayTake(character, gift)) {
                set |= 1 << gift;
            }
        }
        return set;
    }

    public int places() {
        return placesAt(character.levelInAll());
    }

    public int points() {
        return pointsLeft();
    }

    public int value(int value) throws IndexOutOfBoundsException, IllegalStateException {
        if (!isAmong(value, VALUES)) {
            throw new IndexOutOfBoundsException("no such value");
        }
        if (leadsIntoRing(value)) {
            throw new IllegalStateException("the value is in a ring");
        }
        return sumOf(value, workingAmong(character.held), 0);
    }

    public int bonus(int value, int kind) throws IndexOutOfBoundsException, IllegalArgumentException {
        if (!isAmong(value, VALUES)) {
            throw new IndexOutOfBoundsException("no such value");
        }
        if (!isAmong(kind, KINDS)) {
            throw new IllegalArgumentException("the kind is out of range");
        }
        return bonusFrom(workingAmong(character.held), value, kind);
    }

    public boolean isRing(int value) throws IndexOutOfBoundsException {
        if (!isAmong(value, VALUES)) {
            throw new IndexOutOfBoundsException("no such value");
        }
        return leadsIntoRing(value);
    }

    public int attack() {
        float sum = 0f;
        boolean hasLower = false;
        for (int calling = 0; calling < CALLINGS; calling++) {
            int inThis = character.levelIn(calling);
            sum = sum + inThis * ((calling + 2) / 4f);
            if (hasLower) {
                sum = sum - 0.125f * inThis;
            }
            hasLower = hasLower || inThis > 0;
        }
        return (int) sum;
    }

    // ---- orders

    public boolean isLawful() {
        return canReach(character.held);
    }

    public boolean isLawfulByOrders() throws IllegalStateException {
        int steps = stepCount();
        if (steps > MOST_ORDERED) {
            throw new IllegalStateException("too many levels and gifts to try every order");
        }
        trial.empty();
        return someOrderEnds(steps);
    }

    public int stepAt(int step) throws IndexOutOfBoundsException, IllegalStateException {
        if (step < 0) {
            throw new IndexOutOfBoundsException("the step is below 0");
        }
        if (!canReach(character.held)) {
            throw new IllegalStateException("the character is not lawful");
        }
        return step < stepCount() ? stepOfFirstOrder(step) : NONE;
    }

    // ---- ranges

    private static boolean isAmong(int index, int count) {
        return index >= 0 && index < count;
    }

    private static boolean isAmongOrNone(int index, int count) {
        return index == NONE || isAmong(index, count);
    }

    private static boolean isFromTo(int number, int least, int greatest) {
        return number >= least && number <= greatest;
    }

    // ---- abilities

    private static int costOf(int score) {
        return score - LEAST_SCORE + Math.max(0, score - GREATEST_CHEAP_SCORE);
    }

    private int pointsLeft() {
        int left = MOST_POINTS;
        for (int ability = 0; ability < ABILITIES; ability++) {
            left -= costOf(scores[ability]);
        }
        return left;
    }

    private int modifierOf(int ability) {
        return isAmong(ability, ABILITIES) ? Math.floorDiv(scores[ability] - 10, 2) : 0;
    }

    // ---- gifts

    private static int placesAt(int levelInAll) {
        return 1 + levelInAll / 2;
    }

    private boolean hasScoreFor(int gift) {
        int ability = giftRules.ability[gift];
        return ability < 0 || ability >= ABILITIES || scores[ability] >= giftRules.score[gift];
    }

    private boolean hasLevelFor(Build build, int gift) {
        int calling = giftRules.calling[gift];
        return calling < 0 || calling >= CALLINGS || build.levels[calling] >= giftRules.level[gift];
    }

    private boolean isOtherIn(int set, int gift) {
        int other = giftRules.other[gift];
        return other == NONE || (set >> other & 1) != 0;
    }

    private boolean isBarred(Build build, int gift) {
        int calling = giftRules.barCalling[gift];
        return calling >= 0 && calling < CALLINGS && build.levels[calling] > giftRules.barLevel[gift];
    }

    private boolean mayTake(Build build, int gift) {
        return !build.has(gift) && Integer.bitCount(build.held) < placesAt(build.levelInAll())
                && hasScoreFor(gift) && hasLevelFor(build, gift)
                && isOtherIn(build.held, gift) && !isBarred(build, gift);
    }

    /** Grows from nothing, so that gifts that need one another in a ring never come in. */
    private int workingAmong(int set) {
        int works = 0;
        for (int round = 0; round < GIFTS; round++) {
            for (int gift = 0; gift < GIFTS; gift++) {
                if ((set >> gift & 1) != 0 && hasScoreFor(gift) && hasLevelFor(character, gift)
                        && isOtherIn(works, gift)) {
                    works |= 1 << gift;
                }
            }
        }
        return works;
    }

    // ---- values

    private int bonusFrom(int works, int value, int kind) {
        int sum = 0;
        int greatest = 0;
        for (int gift = 0; gift < GIFTS; gift++) {
            if ((works >> gift & 1) != 0 && giftRules.bonusValue[gift] == value
                    && giftRules.bonusKind[gift] == kind) {
                int amount = giftRules.bonusAmount[gift];
                if (kind == ADDING_KIND || amount < 0) {
                    sum += amount;
                } else {
                    greatest = Math.max(greatest, amount);
                }
            }
        }
        return sum + greatest;
    }

    private int sumOf(int value, int works, int depth) {
        if (!isAmong(value, VALUES) || depth >= VALUES) {
            return 0;
        }
        int sum = valueRules.base[value] + modifierOf(valueRules.ability[value])
                + character.levelIn(valueRules.calling[value])
                + Math.floorDiv(sumOf(valueRules.other[value], works, depth + 1), 2);
        for (int kind = 0; kind < KINDS; kind++) {
            sum += bonusFrom(works, value, kind);
        }
        return sum;
    }

    /** A chain that has not ended after as many links as there are values never ends. */
    private boolean leadsIntoRing(int value) {
        int at = value;
        for (int link = 0; link < VALUES && isAmong(at, VALUES); link++) {
            at = valueRules.other[at];
        }
        return isAmong(at, VALUES);
    }

    // ---- orders of steps

    private int stepCount() {
        return takenCount + character.heldCount();
    }

    private boolean isStepTowards(int goal, int step) {
        if (isAmong(step, CALLINGS)) {
            return trial.levels[step] < character.levels[step];
        }
        int gift = step - CALLINGS;
        return isAmong(gift, GIFTS) && (goal >> gift & 1) != 0 && mayTake(trial, gift);
    }

    /** Goes from the goal backwards, so that each stage finds marked what may follow it; leaves the trial empty. */
    private boolean canReach(int goal) {
        Arrays.fill(endings, 0);
        for (int first = character.levels[0]; first >= 0; first--) {
            for (int second = character.levels[1]; second >= 0; second--) {
                for (int third = character.levels[2]; third >= 0; third--) {
                    trial.levels[0] = first;
                    trial.levels[1] = second;
                    trial.levels[2] = third;
                    markSets(goal);
                }
            }
        }
        trial.empty();
        return isMarked();
    }

    /** A set comes after those that hold more, as they are greater numbers. */
    private void markSets(int goal) {
        boolean hasAllLevels = trial.levelInAll() == takenCount;
        for (int set = goal; set >= 0; set--) {
            trial.held = set;
            if ((set & ~goal) == 0 && ((hasAllLevels && set == goal) || firstStepTowards(goal) != NONE)) {
                mark();
            }
        }
    }

    private int firstStepTowards(int goal) {
        for (int step = 0; step < STEPS; step++) {
            if (isStepTowards(goal, step)) {
                trial.goOn(step);
                boolean ends = isMarked();
                trial.goBack(step);
                if (ends) {
                    return step;
                }
            }
        }
        return NONE;
    }

    private int stepOfFirstOrder(int wanted) {
        int step = NONE;
        for (int at = 0; at <= wanted; at++) {
            step = firstStepTowards(character.held);
            trial.goOn(step);
        }
        return step < CALLINGS ? step : TOLD_GIFT_STEP + step - CALLINGS;
    }

    private int wordOfTrial() {
        int stage = trial.levels[0];
        for (int calling = 1; calling < CALLINGS; calling++) {
            stage = stage * (character.levels[calling] + 1) + trial.levels[calling];
        }
        return stage * WORDS + trial.held / SETS_IN_A_WORD;
    }

    private int bitOfTrial() {
        return 1 << (trial.held % SETS_IN_A_WORD);
    }

    private void mark() {
        int word = wordOfTrial();
        if (isAmong(word, endings.length)) {
            endings[word] |= bitOfTrial();
        }
    }

    private boolean isMarked() {
        int word = wordOfTrial();
        return isAmong(word, endings.length) && (endings[word] & bitOfTrial()) != 0;
    }

    private boolean someOrderEnds(int stepsLeft) {
        if (stepsLeft <= 0) {
            return true;
        }
        for (int step = 0; step < STEPS; step++) {
            if (isStepTowards(character.held, step)) {
                trial.goOn(step);
                boolean ends = someOrderEnds(stepsLeft - 1);
                trial.goBack(step);
                if (ends) {
                    return true;
                }
            }
        }
        return false;
    }
}
