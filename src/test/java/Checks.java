/** Counts the answers that are not as due, and ends a test with exit code 1 if there was one. */
final class Checks {
    private static final int MOST_SHOWN = 50;

    private int wrong = 0;
    private int looked = 0;

    void same(String what, long got, long due) {
        looked++;
        if (got != due) {
            tell(what + " answered " + got + ", due is " + due);
        }
    }

    void same(String what, boolean got, boolean due) {
        same(what, got ? 1 : 0, due ? 1 : 0);
    }

    void sameText(String what, String got, String due) {
        looked++;
        if (!got.equals(due)) {
            tell(what + " answered\n    " + got + "\n  due is\n    " + due);
        }
    }

    void isThrown(String what, Class<? extends RuntimeException> due, Runnable call) {
        looked++;
        try {
            call.run();
        } catch (RuntimeException thrown) {
            if (thrown.getClass() != due) {
                tell(what + " threw " + thrown + ", due is " + due.getSimpleName());
            }
            return;
        }
        tell(what + " threw nothing, due is " + due.getSimpleName());
    }

    void badArgument(String what, Runnable call) {
        isThrown(what, IllegalArgumentException.class, call);
    }

    void badState(String what, Runnable call) {
        isThrown(what, IllegalStateException.class, call);
    }

    void badIndex(String what, Runnable call) {
        isThrown(what, IndexOutOfBoundsException.class, call);
    }

    private void tell(String fault) {
        wrong++;
        if (wrong <= MOST_SHOWN) {
            System.out.println(fault);
        }
    }

    void finish() {
        System.out.println(looked + " answers looked at, " + wrong + " not as due");
        if (wrong != 0 || looked == 0) {
            System.exit(1);
        }
    }
}
