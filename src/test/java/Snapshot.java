/** All answers of an object's questions as one text. */
final class Snapshot {

    private Snapshot() {
    }

    static String of(Rulesheet x) {
        StringBuilder text = new StringBuilder();
        text.append("points ").append(x.points()).append(" places ").append(x.places());
        text.append(" gifts ").append(x.gifts()).append(" working ").append(x.working());
        text.append(" open ").append(x.open()).append(" attack ").append(x.attack()).append(" levels");
        for (int calling = 0; calling < 3; calling++) {
            text.append(' ').append(x.level(calling));
        }
        for (int value = 0; value < 6; value++) {
            text.append(" value ").append(x.isRing(value) ? "ring" : x.value(value)).append(" bonuses");
            for (int kind = 0; kind < 4; kind++) {
                text.append(' ').append(x.bonus(value, kind));
            }
        }
        return text.append(" order ").append(order(x)).toString();
    }

    /** The first lawful order, each step behind a blank; "none" if there is none. */
    static String order(Rulesheet x) {
        if (!x.isLawful()) {
            return "none";
        }
        StringBuilder text = new StringBuilder();
        int step = 0;
        while (step < 20 && x.stepAt(step) != Rulesheet.NONE) {
            text.append(' ').append(x.stepAt(step));
            step++;
        }
        return text.toString();
    }
}
