import java.util.ArrayList;
import java.util.List;

/** Counts what was as due, and tells what was not. */
final class Check {

    /** A call that is meant to throw. */
    interface Call {
        void run();
    }

    private final String test;
    private String sentence = "";
    private int passed = 0;
    private int failed = 0;

    Check(String test) {
        this.test = test;
    }

    void due(String what, Object got, Object want) {
        if (want.equals(got)) {
            passed++;
        } else {
            failed++;
            System.out.println(test + ": " + what + " answered " + got + ", due is " + want);
        }
    }

    /** The document's sentence that the scripts behind it hold the class to; DocumentTest looks it up. */
    void sentence(String text) {
        sentence = text;
    }

    /** What the scripts behind it look at, if it is no sentence of the document. */
    void about(String text) {
        sentence = text;
    }

    /**
     * Makes a script's calls on a new object: "takeLevel 2 = 1; loseLevel = 2; loseLevel = state". What is due stands
     * behind the sign =; a call without it must not throw. What a call that throws leaves behind is looked at, too.
     */
    void holds(String script) {
        Run run = new Run();
        List<String> ahead = new ArrayList<>();
        for (String part : Run.parted(script)) {
            String[] sides = part.split(" = ");
            String answer = run.answer(sides[0]);
            boolean throwing = !answer.matches("-|true|false|-?\\d+");
            String what = sentence + ": " + ahead + ", " + sides[0];
            if (sides.length > 1) {
                due(what, answer, sides[1]);
            } else {
                due(what, throwing ? answer : "no exception", "no exception");
            }
            if (throwing) {
                due(what + " leaves behind", Traces.leavesBehind(ahead, sides[0]), "nothing");
            } else {
                ahead.add(sides[0]);
            }
        }
    }

    /** The call is made on a new object in each of the states; each time the same is due. */
    void holdsInAllStates(String call) {
        for (String state : States.ALL) {
            holds(state + call);
        }
    }

    /** The very class is due; what such a call leaves behind is looked at by scripts. */
    private void throwing(String what, Class<? extends RuntimeException> want, Call call) {
        Object got = "nothing thrown";
        try {
            call.run();
        } catch (RuntimeException e) {
            got = e.getClass();
        }
        due(what, got, want);
    }

    void outOfBounds(String what, Call call) {
        throwing(what, IndexOutOfBoundsException.class, call);
    }

    void illegalArgument(String what, Call call) {
        throwing(what, IllegalArgumentException.class, call);
    }

    void illegalState(String what, Call call) {
        throwing(what, IllegalStateException.class, call);
    }

    void finish() {
        System.out.println(test + ": " + passed + " as due, " + failed + " not");
        if (failed > 0 || passed == 0) {
            System.exit(1);
        }
    }
}
