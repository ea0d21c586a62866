/** Counts the answers that are not as due; a test ends with exit code 1 if there was one. */
final class Checks {
    interface Call {
        long answer();
    }

    private static final int SHOWN = 20;
    private int wrong;

    void same(String what, long got, long due) {
        if (got != due) {
            complain(what + " answered " + got + ", due is " + due);
        }
    }

    void yes(String what, boolean got) {
        same(what, got ? 1 : 0, 1);
    }

    void no(String what, boolean got) {
        same(what, got ? 1 : 0, 0);
    }

    void wrongArgument(String what, Call call) {
        thrown(what, call, IllegalArgumentException.class);
    }

    void wrongState(String what, Call call) {
        thrown(what, call, IllegalStateException.class);
    }

    private void thrown(String what, Call call, Class<?> due) {
        try {
            complain(what + " answered " + call.answer() + ", due is " + due.getSimpleName());
        } catch (RuntimeException e) {
            if (e.getClass() != due) {
                complain(what + " threw " + e + ", due is " + due.getSimpleName());
            }
        }
    }

    void complain(String text) {
        wrong++;
        if (wrong <= SHOWN) {
            System.out.println(text);
        }
    }

    boolean isClean() {
        return wrong == 0;
    }

    void finish() {
        if (wrong != 0) {
            System.out.println(wrong + " answers are not as due");
            System.exit(1);
        }
    }
}
