/** Counts the answers that are not as due, and ends a test with exit code 1 if there was one. */
final class Checks {
    /** Of each sentence: a fault that breaks many of them is told for all. */
    private static final int MOST_SHOWN = 5;

    private int wrong = 0;
    private int shown = 0;
    private int looked = 0;
    private int sentences = 0;
    private String sentence = "";

    /** A test of its own for a sentence of the document; its faults are told under these words. */
    void sentence(String words, Runnable test) {
        int lookedBefore = looked;
        sentence = words;
        sentences++;
        shown = 0;
        try {
            test.run();
        } catch (RuntimeException thrown) {
            tell("an unexpected " + thrown + " at " + thrown.getStackTrace()[0]);
        }
        if (looked == lookedBefore) {
            tell("nothing was looked at");
        }
        sentence = "";
    }

    void same(String what, long got, long due) {
        looked++;
        if (got != due) {
            tell(what + " answered " + got + ", due is " + due);
        }
    }

    void same(String what, boolean got, boolean due) {
        same(what, got ? 1 : 0, due ? 1 : 0);
    }

    void sameText(String what, String got, String due) {
        looked++;
        if (!got.equals(due)) {
            tell(what + " answered\n    " + got + "\n  due is\n    " + due);
        }
    }

    void isThrown(String what, Class<? extends RuntimeException> due, Runnable call) {
        looked++;
        try {
            call.run();
        } catch (RuntimeException thrown) {
            if (thrown.getClass() != due) {
                tell(what + " threw " + thrown + ", due is " + due.getSimpleName());
            }
            return;
        }
        tell(what + " threw nothing, due is " + due.getSimpleName());
    }

    void badArgument(String what, Runnable call) {
        isThrown(what, IllegalArgumentException.class, call);
    }

    void badState(String what, Runnable call) {
        isThrown(what, IllegalStateException.class, call);
    }

    void badIndex(String what, Runnable call) {
        isThrown(what, IndexOutOfBoundsException.class, call);
    }

    /** For a call that must not throw and answers nothing. */
    void isTaken(String what, Runnable call) {
        looked++;
        try {
            call.run();
        } catch (RuntimeException thrown) {
            tell(what + " threw " + thrown + ", due is nothing");
        }
    }

    private void tell(String fault) {
        wrong++;
        shown++;
        if (shown <= MOST_SHOWN) {
            System.out.println(sentence.isEmpty() ? fault : "\"" + sentence + "\": " + fault);
        }
    }

    void finish() {
        String of = sentences == 0 ? "" : " for " + sentences + " sentences";
        System.out.println(looked + " answers looked at" + of + ", " + wrong + " not as due");
        if (wrong != 0 || looked == 0) {
            System.exit(1);
        }
    }
}
