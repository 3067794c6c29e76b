/** Scripts that lead to the states in which a call may find an object. */
final class States {

    static final String NEW = "";

    /** All points are spent, all levels and places taken: 8 levels and 5 gifts, all of which work. */
    static final String FULL = "setScore 0 16; setScore 1 14; 3x takeLevel 0; 3x takeLevel 1; 2x takeLevel 2;"
            + "takeGift 3; takeGift 4; takeGift 5; takeGift 6; takeGift 7;";

    /** Every kind of rule is laid. */
    static final String RULES = "setNeeds 0 NONE 0 NONE 0 0; setNeeds 1 0 12 0 2 5; setNeeds 2 3 9 NONE 0 NONE;"
            + "setNeeds 3 NONE 0 2 1 NONE; setNeeds 4 NONE 0 NONE 0 3; bar 5 0 0; bar 6 1 2; bar 7 2 7;"
            + "setBonus 1 0 0 9; setBonus 3 0 1 -9; setBonus 4 0 1 5; setBonus 5 0 1 7; setBonus 6 5 3 -3;"
            + "setBonus 7 2 2 1; setValue 0 10 0 0 1; setValue 1 -7 3 2 2; setValue 2 50 1 1 NONE;"
            + "setValue 3 0 NONE NONE 3; setValue 4 -50 2 NONE 3; setValue 5 1 NONE NONE NONE;";

    /** A lawful character by those rules, with 4 levels and 3 gifts. */
    static final String RULED = RULES + "setScore 0 12; setScore 3 9; takeGift 5; takeLevel 2; takeLevel 0; takeLevel 2;"
            + "takeLevel 0; takeGift 1; takeGift 3;";

    /** The same without its last level: more gifts than places, and one of them works no more. */
    static final String FALLEN = RULED + "loseLevel;";

    /** Gifts and values that need one another. */
    static final String RINGS = FULL + "setNeeds 3 NONE 0 NONE 0 4; setNeeds 4 NONE 0 NONE 0 5; setNeeds 5 NONE 0 NONE 0 3;"
            + "setNeeds 6 NONE 0 NONE 0 6; setValue 0 0 NONE NONE 1; setValue 1 0 NONE NONE 2; setValue 2 0 NONE NONE 0;"
            + "setValue 3 0 NONE NONE 2; setValue 4 9 NONE NONE 5; setBonus 7 5 3 9;";

    static final String[] ALL = {NEW, FULL, RULES, RULED, FALLEN, RINGS};

    private States() {
    }
}
