/** Counts and prints the answers that are not the ones that are due. */
final class Check {
    private int made = 0;
    private int wrong = 0;
    private String test = "";

    /** What is checked from now on belongs to this test. */
    void begin(String name) {
        test = name;
    }

    int made() {
        return made;
    }

    void same(String what, long due, long got) {
        made++;
        if (due != got) {
            fault(what + " answered " + got + ", due is " + due);
        }
    }

    void sameDouble(String what, double due, double got) {
        made++;
        if (due != got) {
            fault(what + " answered " + got + ", due is " + due);
        }
    }

    void holds(String what, boolean holds) {
        made++;
        if (!holds) {
            fault(what + " does not hold");
        }
    }

    /** The call must throw just this exception and change nothing of the object. */
    void refuses(String what, LentMargins object, Class<?> due, Runnable call) {
        made++;
        long before = object.digest();
        Class<?> got = null;
        try {
            call.run();
        } catch (RuntimeException e) {
            got = e.getClass();
        }
        if (got != due) {
            fault(what + " threw " + got + ", due is " + due);
        }
        if (object.digest() != before) {
            fault(what + " changed something");
        }
    }

    private void fault(String text) {
        wrong++;
        if (wrong <= 40) {
            System.out.println(test + text);
        }
    }

    void finish() {
        System.out.println(made + " checks, " + wrong + " wrong");
        if (wrong != 0) {
            System.exit(1);
        }
    }
}
