/** Promise 10: breaks. What each rule says at its places is in RuleTest. */
public final class BreaksTest {
    private static final Checks CHECKS = new Checks();

    public static void main(String[] args) {
        CHECKS.sentence("FORBIDDEN (none), MAY or MUST.", BreaksTest::threeAnswers);
        CHECKS.sentence("breaks at the ends of the text", BreaksTest::ends);
        CHECKS.sentence("IndexOutOfBounds: there is no such place", BreaksTest::noSuchPlace);
        CHECKS.finish();
    }

    private static void threeAnswers() {
        CHECKS.same("FORBIDDEN", BreakPlaces.FORBIDDEN, 0);
        CHECKS.same("MAY", BreakPlaces.MAY, 1);
        CHECKS.same("MUST", BreakPlaces.MUST, 2);
        CHECKS.same("NONE", BreakPlaces.NONE, -1);
        BreakPlaces x = Texts.of("AL AL SP ID CR LF AL ZW CB CB BK");
        CHECKS.same("none between AL and AL", x.breaks(1), BreakPlaces.FORBIDDEN);
        CHECKS.same("MAY behind SP", x.breaks(3), BreakPlaces.MAY);
        CHECKS.same("none between CR and LF", x.breaks(5), BreakPlaces.FORBIDDEN);
        CHECKS.same("MUST behind LF", x.breaks(6), BreakPlaces.MUST);
        CHECKS.same("MAY behind ZW", x.breaks(8), BreakPlaces.MAY);
        CHECKS.same("MAY behind CB", x.breaks(9), BreakPlaces.MAY);
        CHECKS.sameText("all", Texts.breaks(x), "000100201102");
    }

    private static void ends() {
        CHECKS.same("place 0 of no text", new BreakPlaces().breaks(0), BreakPlaces.FORBIDDEN);
        BreakPlaces x = Texts.of("ID");
        CHECKS.same("place 0", x.breaks(0), BreakPlaces.FORBIDDEN);
        CHECKS.same("place n", x.breaks(1), BreakPlaces.MUST);
        Texts.append(x, "ID");
        CHECKS.same("what was place n", x.breaks(1), BreakPlaces.MAY);
        CHECKS.same("place n now", x.breaks(2), BreakPlaces.MUST);
        Texts.cut(x, 0, 2);
        CHECKS.same("place 0 of no text again", x.breaks(0), BreakPlaces.FORBIDDEN);
        BreakPlaces full = Texts.filled(3, 2000);
        CHECKS.same("place 1999 of 2000", full.breaks(1999), BreakPlaces.FORBIDDEN);
        CHECKS.same("place 2000 of 2000", full.breaks(2000), BreakPlaces.MUST);
    }

    private static void noSuchPlace() {
        Refused refused = new Refused(CHECKS, () -> Texts.of("AL SP AL"));
        for (int wrong : new int[] {-1, 4, 5, 2000, 2001, Integer.MIN_VALUE, Integer.MAX_VALUE}) {
            refused.badIndex("breaks(" + wrong + ")", x -> x.breaks(wrong));
        }
        BreakPlaces x = Texts.of("AL SP AL");
        CHECKS.same("breaks at the end", x.breaks(3), BreakPlaces.MUST);
        Texts.cut(x, 2, 3);
        CHECKS.badIndex("breaks at a place that is gone", () -> x.breaks(3));
        CHECKS.badIndex("breaks(1) of no text", () -> new BreakPlaces().breaks(1));
        CHECKS.badIndex("breaks(-1) of no text", () -> new BreakPlaces().breaks(-1));
        CHECKS.badIndex("breaks(2001) of 2000", () -> Texts.filled(3, 2000).breaks(2001));
    }
}
