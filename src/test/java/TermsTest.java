import java.util.function.ToIntFunction;

/** The document's Terms, and what it says of all calls; its rules are in RuleTest. */
public final class TermsTest {
    private static final int NONE = BreakPlaces.NONE;
    private static final int GREATEST = Texts.GREATEST;
    private static final Checks CHECKS = new Checks();

    public static void main(String[] args) {
        CHECKS.sentence("An object is used for at most 512 calls", TermsTest::calls);
        CHECKS.sentence("The TEXT are at most 2000 characters", TermsTest::atMost2000);
        CHECKS.sentence("numbers 0 .. 1114111", TermsTest::numbers);
        CHECKS.sentence("at positions from 0 on", TermsTest::positions);
        CHECKS.sentence("Each has a CLASS, told by ranges", TermsTest::toldByRanges);
        CHECKS.sentence("of several that hold a character the one told last", TermsTest::toldLast);
        CHECKS.sentence("XX if there is none", TermsTest::noRange);
        CHECKS.sentence("and is WIDE or not, a PICTURE or not, told likewise (not, at first)", TermsTest::marks);
        CHECKS.sentence("PLACES are 0 .. n", TermsTest::places);
        CHECKS.sentence("place p lies before character p", TermsTest::placeBeforeCharacter);
        CHECKS.sentence("A call that throws changes nothing", TermsTest::refusedCalls);
        CHECKS.sentence("A call that throws changes nothing, however often", TermsTest::refusedOften);
        CHECKS.finish();
    }

    /** 511 calls, so that the next one is the last; 2000 characters, of which the last is LF. */
    private static BreakPlaces usedUpButForOne() {
        BreakPlaces x = new BreakPlaces();
        x.property(10, 10, Texts.classOf("LF"));
        Texts.fill(x, 65, 2000);
        for (int i = 0; i < 109; i++) {
            x.replace(i, i + 1, 66, NONE, NONE);
        }
        x.replace(1999, 2000, 10, NONE, NONE);
        return x;
    }

    private static void dueLast(String call, int due, ToIntFunction<BreakPlaces> last) {
        CHECKS.same("the 512th call, " + call, last.applyAsInt(usedUpButForOne()), due);
    }

    private static void calls() {
        dueLast("at", 66, x -> x.at(108));
        dueLast("kind", Texts.classOf("LF"), x -> x.kind(1999));
        dueLast("breaks", BreakPlaces.MUST, x -> x.breaks(2000));
        dueLast("rule", 60, x -> x.rule(1999));
        dueLast("next", 2000, x -> x.next(0));
        dueLast("fit", 2000, x -> x.fit(0, 1999));
        dueLast("fit, none", 1998, x -> x.fit(0, 1998));
        dueLast("count(0)", 2000, x -> x.count(0));
        dueLast("count(2)", 1, x -> x.count(2));
        dueLast("clear", 2000, BreakPlaces::clear);
        dueLast("add", 2000, x -> x.add(NONE, 1, 1, 1, 1));
        dueLast("replace", 2, x -> x.replace(1, 2000, 7, NONE, NONE));
        dueLast("loose", 0, x -> x.loose(true) ? 1 : 0);
    }

    private static void atMost2000() {
        BreakPlaces x = Texts.filled(3, 1999);
        CHECKS.same("the 2000th by add", x.add(7, NONE, NONE, NONE, NONE), 2000);
        CHECKS.badState("the 2001st by add", () -> x.add(8, NONE, NONE, NONE, NONE));
        CHECKS.badState("the 2001st by replace", () -> x.replace(1000, 1000, 8, NONE, NONE));
        CHECKS.same("one for another", x.replace(1000, 1001, 9, NONE, NONE), 2000);
        CHECKS.same("at(999)", x.at(999), 3);
        CHECKS.same("at(1000)", x.at(1000), 9);
        CHECKS.same("at(1001)", x.at(1001), 3);
        CHECKS.same("at(1999)", x.at(1999), 7);
        BreakPlaces y = Texts.filled(3, 1999);
        CHECKS.same("the 2000th by replace", y.replace(0, 0, 7, NONE, NONE), 2000);
        CHECKS.badState("the 2001st by add behind it", () -> y.add(8, NONE, NONE, NONE, NONE));
        CHECKS.same("the first", y.at(0), 7);
        CHECKS.same("the last", y.at(1999), 3);
    }

    private static void numbers() {
        BreakPlaces x = new BreakPlaces();
        x.property(0, 0, Texts.classOf("OP"));
        x.property(GREATEST, GREATEST, Texts.classOf("OP"));
        x.mark(0, 0, Texts.WIDE, true);
        CHECKS.same("0 and 1114111 as characters", x.add(65, 0, 65, GREATEST, NONE), 4);
        CHECKS.sameText("rules", Texts.rules(x), "20 310 140 300 30");
        CHECKS.sameText("the text", Texts.characters(x), "65 0 65 1114111");
        CHECKS.same("1114111 and 0 by replace", x.replace(0, 1, GREATEST, 0, NONE), 5);
        CHECKS.badArgument("1114112 by add", () -> x.add(GREATEST + 1, NONE, NONE, NONE, NONE));
        CHECKS.badArgument("-2 by add", () -> x.add(-2, NONE, NONE, NONE, NONE));
        CHECKS.badArgument("1114112 by replace", () -> x.replace(0, 0, GREATEST + 1, NONE, NONE));
        CHECKS.badArgument("-2 by replace", () -> x.replace(0, 0, -2, NONE, NONE));
        CHECKS.badArgument("1114112 by property", () -> x.property(GREATEST + 1, GREATEST + 1, 0));
        CHECKS.badArgument("-1 by property", () -> x.property(-1, -1, 0));
        CHECKS.badArgument("1114112 by mark", () -> x.mark(GREATEST + 1, GREATEST + 1, 0, true));
        CHECKS.badArgument("-1 by mark", () -> x.mark(-1, -1, 0, true));
    }

    private static void positions() {
        BreakPlaces x = new BreakPlaces();
        CHECKS.badIndex("at(0) of no text", () -> x.at(0));
        x.add(70, 71, 72, NONE, NONE);
        CHECKS.same("the first", x.at(0), 70);
        CHECKS.same("the last", x.at(2), 72);
        CHECKS.badIndex("before the first", () -> x.at(-1));
        CHECKS.badIndex("behind the last", () -> x.at(3));
    }

    private static void toldByRanges() {
        BreakPlaces x = new BreakPlaces();
        x.add(9, 10, 12, 13, 14);
        x.property(10, 13, Texts.classOf("NU"));
        x.add(9, 10, 12, 13, 14);
        int[] due = {27, 23, 23, 23, 27, 27, 23, 23, 23, 27};
        for (int i = 0; i < due.length; i++) {
            CHECKS.same("kind of " + x.at(i), x.kind(i), due[i]);
        }
    }

    private static void toldLast() {
        BreakPlaces x = new BreakPlaces();
        x.add(10, 10, NONE, NONE, NONE);
        int[] told = {29, 23, 37, 40, 29, 4, 0, 43};
        int[] due = {29, 23, 37, 27, 29, 4, 0, 19};
        for (int i = 0; i < told.length; i++) {
            x.property(i, 20 - i, told[i]);
            CHECKS.same("kind, told " + told[i], x.kind(0), due[i]);
        }
        x.add(10, NONE, NONE, NONE, NONE);
        CHECKS.same("kind of one that came later", x.kind(2), 19);
        x.add(1, 0, NONE, NONE, NONE);
        CHECKS.same("kind of 1", x.kind(3), 23);
        CHECKS.same("kind of 0", x.kind(4), 29);
    }

    private static void noRange() {
        BreakPlaces x = new BreakPlaces();
        x.property(10, 10, Texts.classOf("ID"));
        x.property(12, 12, Texts.classOf("ID"));
        x.add(11, 9, 13, NONE, NONE);
        for (int i = 0; i < 3; i++) {
            CHECKS.same("kind of " + x.at(i), x.kind(i), Texts.classOf("AL"));
        }
    }

    private static void marks() {
        BreakPlaces x = Texts.of("AL OP ID EM");
        CHECKS.sameText("rules at first", Texts.rules(x), "20 300 140 310 30");
        Texts.markAs(x, "OP", Texts.WIDE, true);
        Texts.markAs(x, "ID", Texts.PICTURE, true);
        CHECKS.sameText("rules with both", Texts.rules(x), "20 310 140 302 30");
        Texts.markAs(x, "OP", Texts.WIDE, false);
        Texts.markAs(x, "ID", Texts.PICTURE, false);
        CHECKS.sameText("rules with both taken back", Texts.rules(x), "20 300 140 310 30");
    }

    private static void places() {
        for (int many = 0; many <= 3; many++) {
            BreakPlaces x = Texts.filled(3, many);
            int end = many;
            CHECKS.same("rule(0) of " + many, x.rule(0), 20);
            CHECKS.same("rule(n) of " + many, x.rule(many), many == 0 ? 20 : 30);
            CHECKS.badIndex("rule(n + 1) of " + many, () -> x.rule(end + 1));
            CHECKS.badIndex("breaks(n + 1) of " + many, () -> x.breaks(end + 1));
            CHECKS.badIndex("next(n + 1) of " + many, () -> x.next(end + 1));
            CHECKS.badIndex("fit(n + 1, 1) of " + many, () -> x.fit(end + 1, 1));
            CHECKS.badIndex("replace(n + 1, n + 1, ..) of " + many,
                    () -> x.replace(end + 1, end + 1, NONE, NONE, NONE));
            CHECKS.badIndex("rule(-1) of " + many, () -> x.rule(-1));
            CHECKS.same("replace(n, n, ..) of " + many, x.replace(many, many, 5, NONE, NONE), many + 1);
        }
    }

    private static void placeBeforeCharacter() {
        BreakPlaces x = Texts.of("AL AL SP AL AL");
        CHECKS.same("before SP", x.rule(2), 70);
        CHECKS.same("behind SP", x.rule(3), 180);
        CHECKS.same("replace at place 2", x.replace(2, 2, 7, NONE, NONE), 6);
        CHECKS.same("what stands behind place 2", x.at(2), 7);
        CHECKS.same("before SP now", x.rule(3), 70);
    }

    /** Nine characters; what is told of marks and LOOSE shows in their rules. */
    private static BreakPlaces rich() {
        BreakPlaces x = Texts.of("RI RI RI CJ AL OP SP AL EM");
        Texts.markAs(x, "OP", Texts.WIDE, true);
        Texts.markAs(x, "AL", Texts.PICTURE, true);
        x.loose(true);
        return x;
    }

    /** The same with as many ranges as there may be, and no call that was refused. */
    private static BreakPlaces richAndFull() {
        BreakPlaces x = rich();
        for (int i = Texts.NAMES.size(); i < 100; i++) {
            x.property(0, 0, 0);
        }
        for (int i = 1; i < 40; i++) {
            x.mark(0, 0, Texts.WIDE, true);
            x.mark(0, 0, Texts.PICTURE, true);
        }
        return x;
    }

    private static void refusedCalls() {
        CHECKS.sameText("rules of the text", Texts.rules(rich()), "20 301 310 310 310 310 70 140 302 30");
        Refused refused = new Refused(CHECKS, TermsTest::rich);
        int sp = Texts.character("SP");
        refused.badArgument("property, no range", x -> x.property(2000, 1000, 4));
        refused.badArgument("property, no character", x -> x.property(0, GREATEST + 1, 4));
        refused.badArgument("property, no class", x -> x.property(0, GREATEST, 44));
        refused.badArgument("mark, no range", x -> x.mark(2000, 1000, 0, false));
        refused.badArgument("mark, no character", x -> x.mark(-1, GREATEST, 1, false));
        refused.badArgument("mark, neither", x -> x.mark(0, GREATEST, 2, false));
        refused.badArgument("add, the first wrong", x -> x.add(-2, sp, sp, sp, sp));
        refused.badArgument("add, the last wrong", x -> x.add(sp, sp, sp, sp, GREATEST + 1));
        refused.badIndex("replace, from above to", x -> x.replace(5, 1, sp, sp, sp));
        refused.badIndex("replace, no place", x -> x.replace(1, 10, sp, sp, sp));
        refused.badArgument("replace, the first wrong", x -> x.replace(1, 5, -2, sp, sp));
        refused.badArgument("replace, the last wrong", x -> x.replace(1, 5, sp, sp, GREATEST + 1));
        refused.badIndex("at", x -> x.at(9));
        refused.badIndex("kind", x -> x.kind(9));
        refused.badIndex("breaks", x -> x.breaks(10));
        refused.badIndex("rule", x -> x.rule(10));
        refused.badIndex("next", x -> x.next(10));
        refused.badIndex("fit, no place", x -> x.fit(10, 1));
        refused.badArgument("fit, no room", x -> x.fit(0, 0));

        Refused full = new Refused(CHECKS, TermsTest::richAndFull);
        full.badState("property, 100 ranges", x -> x.property(0, GREATEST, 4));
        full.badState("mark, 40 WIDE ranges", x -> x.mark(0, GREATEST, Texts.WIDE, false));
        full.badState("mark, 40 ranges of PICTURES", x -> x.mark(0, GREATEST, Texts.PICTURE, false));

        Refused filled = new Refused(CHECKS, () -> Texts.filled(3, 1998));
        filled.badState("add, more than 2000", x -> x.add(1, 2, 3, NONE, NONE));
        filled.badState("replace, more than 2000", x -> x.replace(1, 1, 4, 5, 6));
        filled.badState("replace, more than 2000, one out", x -> x.replace(0, 0, 4, 5, 6));
    }

    private static void refusedOften() {
        BreakPlaces x = rich();
        BreakPlaces untouched = rich();
        for (int i = 0; i < 20; i++) {
            CHECKS.badArgument("property", () -> x.property(5, 4, 0));
            CHECKS.badArgument("mark", () -> x.mark(5, 4, 0, true));
            CHECKS.badArgument("add", () -> x.add(5, -4, 0, 0, 0));
            CHECKS.badArgument("replace", () -> x.replace(0, 8, 5, -4, 0));
            CHECKS.badIndex("rule", () -> x.rule(10));
        }
        CHECKS.sameText("what stands", Texts.state(x), Texts.state(untouched));
    }
}
