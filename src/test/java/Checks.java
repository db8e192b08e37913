/** Counts the answers of a test that are not as due, and prints each of them. */
final class Checks {
    /** A call that may throw. */
    interface Call {
        void make();
    }

    private final String name;
    private int made;
    private int wrong;

    Checks(String name) {
        this.name = name;
    }

    void due(String what, long want, long got) {
        made++;
        if (got != want) {
            fail(what + " answered " + got + ", due is " + want);
        }
    }

    void due(String what, String want, String got) {
        made++;
        if (!got.equals(want)) {
            fail(what + " answered " + got + ", due is " + want);
        }
    }

    void argument(String what, Call call) {
        due(what, "IllegalArgumentException", thrownBy(call));
    }

    void state(String what, Call call) {
        due(what, "IllegalStateException", thrownBy(call));
    }

    /** The plain name of what the call throws; "nothing" if it throws nothing. */
    static String thrownBy(Call call) {
        try {
            call.make();
            return "nothing";
        } catch (RuntimeException e) {
            return e.getClass().getSimpleName();
        }
    }

    private void fail(String text) {
        wrong++;
        if (wrong <= 40) {
            System.out.println(name + ": " + text);
        }
    }

    void end() {
        System.out.println(name + ": " + made + " checks, " + wrong + " wrong");
        if (wrong > 0 || made == 0) {
            System.exit(1);
        }
    }
}
