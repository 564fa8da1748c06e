/** Compares answers with those that are due, prints each one that differs, and ends a test. */
final class Check {
    static final Class<?> STATE = IllegalStateException.class;
    static final Class<?> INDEX = IndexOutOfBoundsException.class;
    static final Class<?> ARGUMENT = IllegalArgumentException.class;

    /** A call that answers a number; a boolean is passed as 1 or 0. */
    interface Call {
        long answer();
    }

    private int wrong;
    private int done;

    void same(String what, long got, long due) {
        done++;
        if (got != due) {
            report(what + " answered " + got + ", due is " + due);
        }
    }

    void same(String what, boolean got, boolean due) {
        same(what, got ? 1 : 0, due ? 1 : 0);
    }

    void sameReal(String what, double got, double due) {
        done++;
        if (got != due) {
            report(what + " answered " + got + ", due is " + due);
        }
    }

    void sameText(String what, String got, String due) {
        done++;
        if (!got.equals(due)) {
            report(what + " wrote \"" + got + "\", due is \"" + due + "\"");
        }
    }

    void fails(String what, Class<?> due, Call call) {
        done++;
        try {
            long got = call.answer();
            report(what + " answered " + got + ", due is " + due.getSimpleName());
        } catch (RuntimeException e) {
            // The class itself: the machine throws subclasses of these.
            if (e.getClass() != due) {
                report(what + " threw " + e + ", due is " + due.getSimpleName());
            }
        }
    }

    int wrong() {
        return wrong;
    }

    void end() {
        System.out.println(done + " answers, " + wrong + " wrong");
        if (wrong != 0 || done == 0) {
            System.exit(1);
        }
    }

    private void report(String line) {
        wrong++;
        if (wrong <= 40) {
            System.out.println(line);
        }
    }
}
