/** Counts what was as due, and tells what was not. */
final class Check {

    /** A call that is meant to throw. */
    interface Call {
        void run();
    }

    private final String test;
    private int passed = 0;
    private int failed = 0;

    Check(String test) {
        this.test = test;
    }

    void due(String what, Object got, Object want) {
        if (want.equals(got)) {
            passed++;
        } else {
            failed++;
            System.out.println(test + ": " + what + " answered " + got + ", due is " + want);
        }
    }

    /** The very class is due, and nothing that can be asked of the object may differ afterwards. */
    void throwing(String what, Class<? extends RuntimeException> want, Rulesheet object, Call call) {
        String before = Snapshot.of(object);
        Object got = "nothing thrown";
        try {
            call.run();
        } catch (RuntimeException e) {
            got = e.getClass();
        }
        due(what, got, want);
        due(what + ", state afterwards", Snapshot.of(object), before);
    }

    void outOfBounds(String what, Rulesheet object, Call call) {
        throwing(what, IndexOutOfBoundsException.class, object, call);
    }

    void illegalArgument(String what, Rulesheet object, Call call) {
        throwing(what, IllegalArgumentException.class, object, call);
    }

    void illegalState(String what, Rulesheet object, Call call) {
        throwing(what, IllegalStateException.class, object, call);
    }

    void finish() {
        System.out.println(test + ": " + passed + " as due, " + failed + " not");
        if (failed > 0 || passed == 0) {
            System.exit(1);
        }
    }
}
