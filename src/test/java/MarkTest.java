/** Promise 3: mark. */
public final class MarkTest {
    private static final int GREATEST = Texts.GREATEST;
    private static final int WIDE = Texts.WIDE;
    private static final int PICTURE = Texts.PICTURE;
    private static final Checks CHECKS = new Checks();

    public static void main(String[] args) {
        CHECKS.sentence("Characters of a range are, or are not: WIDE (what = 0)", MarkTest::wide);
        CHECKS.sentence("Characters of a range are, or are not: a PICTURE (1)", MarkTest::picture);
        CHECKS.sentence("Characters of a range: its bounds", MarkTest::bounds);
        CHECKS.sentence("told likewise: the one told last", MarkTest::toldLast);
        CHECKS.sentence("marks of what is left out", MarkTest::leftOut);
        CHECKS.sentence("IllegalArgument: a bound is no character", MarkTest::boundIsNoCharacter);
        CHECKS.sentence("IllegalArgument: first is above last", MarkTest::firstAboveLast);
        CHECKS.sentence("IllegalArgument: what is neither", MarkTest::whatIsNeither);
        CHECKS.sentence("IllegalState: there are 40 such ranges of that", MarkTest::fortyRanges);
        CHECKS.sentence("40 such ranges: what counts as one", MarkTest::whatCountsAsARange);
        CHECKS.sentence("IllegalArgument before IllegalState", MarkTest::firstWins);
        CHECKS.finish();
    }

    private static void wide() {
        BreakPlaces x = Texts.of("AL OP ID CP AL");
        CHECKS.sameText("rules, none WIDE", Texts.rules(x), "20 300 140 130 300 30");
        Texts.markAs(x, "OP", WIDE, true);
        CHECKS.sameText("rules, OP WIDE", Texts.rules(x), "20 310 140 130 300 30");
        Texts.markAs(x, "CP", WIDE, true);
        CHECKS.sameText("rules, CP WIDE too", Texts.rules(x), "20 310 140 130 310 30");
        Texts.markAs(x, "OP", WIDE, false);
        CHECKS.sameText("rules, OP not WIDE again", Texts.rules(x), "20 300 140 130 310 30");
        Texts.markAs(x, "AL", WIDE, true);
        CHECKS.sameText("rules, AL WIDE", Texts.rules(x), "20 300 140 130 310 30");
        Texts.markAs(x, "OP", PICTURE, true);
        CHECKS.sameText("rules, OP a PICTURE", Texts.rules(x), "20 300 140 130 310 30");
    }

    private static void picture() {
        BreakPlaces x = Texts.of("ID EM AL EM EB EM");
        CHECKS.sameText("rules, no PICTURE", Texts.rules(x), "20 310 310 310 310 302 30");
        Texts.markAs(x, "ID", PICTURE, true);
        CHECKS.sameText("rules, ID a PICTURE", Texts.rules(x), "20 302 310 310 310 302 30");
        x.mark(0, GREATEST, PICTURE, true);
        CHECKS.sameText("rules, all PICTURES", Texts.rules(x), "20 302 310 302 310 302 30");
        x.mark(0, GREATEST, PICTURE, false);
        CHECKS.sameText("rules, no PICTURE again", Texts.rules(x), "20 310 310 310 310 302 30");
        x.mark(0, GREATEST, WIDE, true);
        CHECKS.sameText("rules, all WIDE", Texts.rules(x), "20 310 310 310 310 302 30");
        BreakPlaces em = Texts.of("EM EM");
        Texts.markAs(em, "EM", PICTURE, true);
        CHECKS.same("EM that is a PICTURE, and EM", em.rule(1), 302);
    }

    /** AL and an OP for each of some characters, so that its place tells whether it is WIDE. */
    private static BreakPlaces opsBehindAl(int... ops) {
        BreakPlaces x = new BreakPlaces();
        for (int op : ops) {
            x.property(op, op, Texts.classOf("OP"));
            x.add(1, op, -1, -1, -1);
        }
        return x;
    }

    private static void dueAtOps(BreakPlaces x, int... due) {
        for (int i = 0; i < due.length; i++) {
            CHECKS.same("rule before OP " + x.at(2 * i + 1), x.rule(2 * i + 1), due[i]);
        }
    }

    private static void bounds() {
        BreakPlaces x = opsBehindAl(10, 11, 12, 13, 14, 15);
        x.mark(11, 14, WIDE, true);
        dueAtOps(x, 300, 310, 310, 310, 310, 300);
        x.mark(12, 12, WIDE, false);
        dueAtOps(x, 300, 310, 300, 310, 310, 300);
        BreakPlaces y = opsBehindAl(0, 2, GREATEST - 1, GREATEST);
        y.mark(0, 0, WIDE, true);
        dueAtOps(y, 310, 300, 300, 300);
        y.mark(GREATEST, GREATEST, WIDE, true);
        dueAtOps(y, 310, 300, 300, 310);
        y.mark(0, GREATEST, WIDE, false);
        dueAtOps(y, 300, 300, 300, 300);
        y.mark(0, GREATEST, WIDE, true);
        dueAtOps(y, 310, 310, 310, 310);
        BreakPlaces em = new BreakPlaces();
        em.property(50, 50, Texts.classOf("EM"));
        em.add(10, 50, 11, 50, -1);
        em.add(12, 50, 13, 50, -1);
        em.mark(11, 12, PICTURE, true);
        CHECKS.sameText("rules, 11 to 12 PICTURES", Texts.rules(em), "20 310 310 302 310 302 310 310 30");
    }

    private static void toldLast() {
        BreakPlaces x = opsBehindAl(10, 11, 12, 13, 14, 15);
        x.mark(11, 14, WIDE, true);
        x.mark(12, 13, WIDE, false);
        x.mark(13, 13, WIDE, true);
        dueAtOps(x, 300, 310, 300, 310, 310, 300);
        x.mark(11, 15, WIDE, false);
        dueAtOps(x, 300, 300, 300, 300, 300, 300);
    }

    private static void leftOut() {
        BreakPlaces x = Texts.of("CP CM AL ID CM EM");
        Texts.markAs(x, "CM", WIDE, true);
        Texts.markAs(x, "CM", PICTURE, true);
        CHECKS.sameText("a mark of what is left out", Texts.rules(x), "20 90 300 310 90 310 30");
        Texts.markAs(x, "CP", WIDE, true);
        Texts.markAs(x, "ID", PICTURE, true);
        Texts.markAs(x, "CM", WIDE, false);
        Texts.markAs(x, "CM", PICTURE, false);
        CHECKS.sameText("a mark before what is left out", Texts.rules(x), "20 90 310 310 90 302 30");
        BreakPlaces y = Texts.of("SP CM EM");
        CHECKS.same("CM as AL", y.rule(2), 310);
        Texts.markAs(y, "CM", PICTURE, true);
        CHECKS.same("CM as AL, a PICTURE", y.rule(2), 302);
    }

    private static BreakPlaces some() {
        BreakPlaces x = Texts.of("AL OP ID EM CP NU");
        Texts.markAs(x, "CP", WIDE, true);
        return x;
    }

    private static void boundIsNoCharacter() {
        Refused refused = new Refused(CHECKS, MarkTest::some);
        for (int w = 0; w <= 1; w++) {
            int what = w;
            for (int wrong : new int[] {-1, -2, GREATEST + 1, Integer.MIN_VALUE, Integer.MAX_VALUE}) {
                refused.badArgument("first and last " + wrong, x -> x.mark(wrong, wrong, what, true));
                refused.badArgument("first " + wrong, x -> x.mark(wrong, GREATEST, what, true));
                refused.badArgument("last " + wrong, x -> x.mark(0, wrong, what, true));
                refused.badArgument("last " + wrong + ", not", x -> x.mark(0, wrong, what, false));
            }
            BreakPlaces x = some();
            CHECKS.isTaken("0 to 0", () -> x.mark(0, 0, what, true));
            CHECKS.isTaken("the greatest", () -> x.mark(GREATEST, GREATEST, what, true));
            CHECKS.isTaken("all", () -> x.mark(0, GREATEST, what, true));
        }
    }

    private static void firstAboveLast() {
        Refused refused = new Refused(CHECKS, MarkTest::some);
        for (int w = 0; w <= 1; w++) {
            int what = w;
            refused.badArgument("1 to 0", x -> x.mark(1, 0, what, true));
            refused.badArgument("2000 to 0", x -> x.mark(2000, 0, what, true));
            refused.badArgument("the greatest to 0", x -> x.mark(GREATEST, 0, what, false));
            BreakPlaces x = some();
            CHECKS.isTaken("1020 to 1020", () -> x.mark(1020, 1020, what, true));
            CHECKS.same("rule before OP", x.rule(1), what == WIDE ? 310 : 300);
        }
    }

    private static void whatIsNeither() {
        Refused refused = new Refused(CHECKS, MarkTest::some);
        for (int wrong : new int[] {-1, 2, 3, Integer.MIN_VALUE, Integer.MAX_VALUE}) {
            refused.badArgument("what " + wrong, x -> x.mark(0, 5000, wrong, true));
            refused.badArgument("what " + wrong + ", not", x -> x.mark(0, 5000, wrong, false));
        }
    }

    /** 40 ranges of a mark, the last of which says that nothing has it. */
    private static BreakPlaces full(int what) {
        BreakPlaces x = Texts.of("AL OP ID EM");
        for (int i = 0; i < 39; i++) {
            x.mark(0, GREATEST, what, true);
        }
        x.mark(0, GREATEST, what, false);
        return x;
    }

    private static void fortyRanges() {
        for (int w = 0; w <= 1; w++) {
            int what = w;
            CHECKS.sameText("rules by the 40th", Texts.rules(full(what)), "20 300 140 310 30");
            Refused refused = new Refused(CHECKS, () -> full(what));
            refused.badState("the 41st range", x -> x.mark(0, GREATEST, what, true));
            refused.badState("the 41st range, not", x -> x.mark(0, GREATEST, what, false));
            refused.badState("the 41st range, of one character", x -> x.mark(5, 5, what, true));
        }
        BreakPlaces x = full(WIDE);
        x.mark(0, GREATEST, PICTURE, true);
        CHECKS.sameText("rules, WIDE ranges full", Texts.rules(x), "20 300 140 302 30");
        BreakPlaces y = full(PICTURE);
        y.mark(0, GREATEST, WIDE, true);
        CHECKS.sameText("rules, ranges of PICTURES full", Texts.rules(y), "20 310 140 310 30");
    }

    private static void whatCountsAsARange() {
        for (int what = 0; what <= 1; what++) {
            BreakPlaces x = new BreakPlaces();
            x.mark(7, 7, what, true);
            x.mark(7, 7, what, true);
            x.mark(7, 7, what, false);
            CHECKS.same("the same range three times, and not", Texts.freeMarks(x, what), 37);
            CHECKS.same("ranges of the other mark", Texts.freeMarks(x, 1 - what), 40);
            CHECKS.same("ranges of classes", Texts.freeRanges(x), 100);
            BreakPlaces not = new BreakPlaces();
            not.mark(7, 7, what, false);
            CHECKS.same("a range that is not, alone", Texts.freeMarks(not, what), 39);
            BreakPlaces cleared = full(what);
            CHECKS.same("clear", cleared.clear(), 4);
            CHECKS.same("after clear", Texts.freeMarks(cleared, what), 0);
        }
    }

    private static void firstWins() {
        for (int w = 0; w <= 1; w++) {
            int what = w;
            Refused refused = new Refused(CHECKS, () -> full(what));
            refused.badArgument("the 41st, first -1", x -> x.mark(-1, 0, what, true));
            refused.badArgument("the 41st, last too great", x -> x.mark(0, GREATEST + 1, what, true));
            refused.badArgument("the 41st, first above last", x -> x.mark(1, 0, what, true));
        }
        Refused both = new Refused(CHECKS, () -> {
            BreakPlaces x = full(WIDE);
            for (int i = 0; i < 40; i++) {
                x.mark(0, GREATEST, PICTURE, true);
            }
            return x;
        });
        both.badArgument("both full, what -1", x -> x.mark(0, 0, -1, true));
        both.badArgument("both full, what 2", x -> x.mark(0, 0, 2, true));
    }
}
