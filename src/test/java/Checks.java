/** Counts answers that are not as due, and says how the tests of one file ended. */
final class Checks {

    /** A call that may throw. */
    interface Call {
        long answer();
    }

    private final String file;
    private int made;
    private int wrong;

    Checks(String file) {
        this.file = file;
    }

    void due(String what, long got, long want) {
        made++;
        if (got != want) {
            tellWrong(what + " answered " + got + ", due is " + want);
        }
    }

    void due(String what, boolean got, boolean want) {
        due(what, got ? 1 : 0, want ? 1 : 0);
    }

    void due(String what, String got, String want) {
        made++;
        if (!got.equals(want)) {
            tellWrong(what + " answered \"" + got + "\", due is \"" + want + "\"");
        }
    }

    /** The exception is due in its very class: what the machine throws has a class of its own. */
    void dueThrow(String what, Class<? extends RuntimeException> want, Call call) {
        made++;
        try {
            long got = call.answer();
            tellWrong(what + " answered " + got + ", due is " + want.getSimpleName());
        } catch (RuntimeException thrown) {
            if (thrown.getClass() != want) {
                tellWrong(what + " threw " + thrown + ", due is " + want.getSimpleName());
            }
        }
    }

    void dueOutOfBounds(String what, Call call) {
        dueThrow(what, IndexOutOfBoundsException.class, call);
    }

    void dueBadArgument(String what, Call call) {
        dueThrow(what, IllegalArgumentException.class, call);
    }

    void dueBadState(String what, Call call) {
        dueThrow(what, IllegalStateException.class, call);
    }

    private void tellWrong(String what) {
        wrong++;
        System.out.println(file + ": " + what);
    }

    void finish() {
        System.out.println(file + ": " + made + " checks, " + wrong + " wrong");
        if (wrong != 0) {
            System.exit(1);
        }
    }
}
