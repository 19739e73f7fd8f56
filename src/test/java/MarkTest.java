/** Promise 3: mark. */
public final class MarkTest {
    private static final int GREATEST = 1114111;
    private static final int WIDE = 0;
    private static final int PICTURE = 1;

    public static void main(String[] args) {
        Checks checks = new Checks();
        checkWide(checks);
        checkPicture(checks);
        checkRanges(checks);
        checkLeftOut(checks);
        checkWrongArguments(checks);
        checkLimit(checks, WIDE);
        checkLimit(checks, PICTURE);
        checks.finish();
    }

    private static void markAs(BreakPlaces x, String name, int what, boolean are) {
        x.mark(Texts.character(name), Texts.character(name), what, are);
    }

    private static void checkWide(Checks checks) {
        BreakPlaces x = Texts.of("AL OP ID CP AL");
        checks.sameText("rules, none WIDE", Texts.rules(x), "20 300 140 130 300 30");
        markAs(x, "OP", WIDE, true);
        checks.sameText("rules, OP WIDE", Texts.rules(x), "20 310 140 130 300 30");
        markAs(x, "CP", WIDE, true);
        checks.sameText("rules, CP WIDE too", Texts.rules(x), "20 310 140 130 310 30");
        markAs(x, "OP", WIDE, false);
        checks.sameText("rules, OP not WIDE again", Texts.rules(x), "20 300 140 130 310 30");
        markAs(x, "AL", WIDE, true);
        checks.sameText("rules, AL WIDE", Texts.rules(x), "20 300 140 130 310 30");
        markAs(x, "OP", PICTURE, true);
        checks.sameText("rules, OP a PICTURE", Texts.rules(x), "20 300 140 130 310 30");
    }

    private static void checkPicture(Checks checks) {
        BreakPlaces x = Texts.of("ID EM AL EM EB EM");
        checks.sameText("rules, no PICTURE", Texts.rules(x), "20 310 310 310 310 302 30");
        markAs(x, "ID", PICTURE, true);
        checks.sameText("rules, ID a PICTURE", Texts.rules(x), "20 302 310 310 310 302 30");
        x.mark(0, GREATEST, PICTURE, true);
        checks.sameText("rules, all PICTURES", Texts.rules(x), "20 302 310 302 310 302 30");
        x.mark(0, GREATEST, PICTURE, false);
        checks.sameText("rules, no PICTURE again", Texts.rules(x), "20 310 310 310 310 302 30");
        x.mark(0, GREATEST, WIDE, true);
        checks.sameText("rules, all WIDE", Texts.rules(x), "20 310 310 310 310 302 30");
        BreakPlaces em = Texts.of("EM EM");
        markAs(em, "EM", PICTURE, true);
        checks.same("EM that is a PICTURE, and EM", em.rule(1), 302);
    }

    private static void checkRanges(Checks checks) {
        BreakPlaces x = new BreakPlaces();
        x.property(10, 20, Texts.classOf("OP"));
        int[] ops = {10, 11, 12, 13, 14, 15};
        for (int op : ops) {
            x.add(1, op, -1, -1, -1);
        }
        x.mark(11, 14, WIDE, true);
        x.mark(12, 13, WIDE, false);
        x.mark(13, 13, WIDE, true);
        int[] due = {300, 310, 300, 310, 310, 300};
        for (int i = 0; i < ops.length; i++) {
            checks.same("rule before OP " + ops[i], x.rule(2 * i + 1), due[i]);
        }
    }

    private static void checkLeftOut(Checks checks) {
        BreakPlaces x = Texts.of("CP CM AL ID CM EM");
        markAs(x, "CM", WIDE, true);
        markAs(x, "CM", PICTURE, true);
        checks.sameText("a mark of what is left out", Texts.rules(x), "20 90 300 310 90 310 30");
        markAs(x, "CP", WIDE, true);
        markAs(x, "ID", PICTURE, true);
        markAs(x, "CM", WIDE, false);
        markAs(x, "CM", PICTURE, false);
        checks.sameText("a mark before what is left out", Texts.rules(x), "20 90 310 310 90 302 30");
        BreakPlaces y = Texts.of("SP CM EM");
        checks.same("CM as AL", y.rule(2), 310);
        markAs(y, "CM", PICTURE, true);
        checks.same("CM as AL, a PICTURE", y.rule(2), 302);
    }

    private static void checkWrongArguments(Checks checks) {
        BreakPlaces x = Texts.of("AL OP ID EM");
        for (int what = 0; what <= 1; what++) {
            int w = what;
            checks.badArgument("first -1", () -> x.mark(-1, 5, w, true));
            checks.badArgument("last -1", () -> x.mark(0, -1, w, true));
            checks.badArgument("first too great", () -> x.mark(GREATEST + 1, GREATEST + 1, w, true));
            checks.badArgument("last too great", () -> x.mark(0, GREATEST + 1, w, true));
            checks.badArgument("first above last", () -> x.mark(2000, 0, w, true));
        }
        checks.badArgument("what -1", () -> x.mark(0, 5000, -1, true));
        checks.badArgument("what 2", () -> x.mark(0, 5000, 2, true));
        checks.badArgument("what least", () -> x.mark(0, 5000, Integer.MIN_VALUE, true));
        checks.badArgument("what greatest", () -> x.mark(0, 5000, Integer.MAX_VALUE, true));
        checks.sameText("rules after wrong calls", Texts.rules(x), "20 300 140 310 30");
        x.mark(0, 0, WIDE, true);
        x.mark(GREATEST, GREATEST, PICTURE, true);
    }

    private static void checkLimit(Checks checks, int what) {
        BreakPlaces x = Texts.of("AL OP ID EM");
        for (int i = 0; i < 39; i++) {
            x.mark(0, GREATEST, what, i % 2 == 0);
        }
        checks.badArgument("a wrong call does not count", () -> x.mark(1, 0, what, true));
        x.mark(0, GREATEST, what, false);
        checks.badState("the 41st range", () -> x.mark(0, GREATEST, what, true));
        checks.badState("the 41st range, not", () -> x.mark(0, GREATEST, what, false));
        checks.badArgument("IllegalArgument wins", () -> x.mark(1, 0, what, true));
        checks.sameText("rules after the 41st", Texts.rules(x), "20 300 140 310 30");
        for (int i = 0; i < 40; i++) {
            x.mark(0, GREATEST, 1 - what, true);
        }
        checks.badState("the 41st of the other", () -> x.mark(0, 0, 1 - what, true));
        x.property(0, 0, 0);
    }
}
