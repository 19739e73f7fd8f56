/** Promise 7: clear. */
public final class ClearTest {
    private static final Checks CHECKS = new Checks();

    public static void main(String[] args) {
        CHECKS.sentence("The text is empty", ClearTest::isEmpty);
        CHECKS.sentence("how many characters it had", ClearTest::howManyItHad);
        CHECKS.sentence("The text is empty: classes and marks stay as told", ClearTest::toldOnesStay);
        CHECKS.sentence("The text is empty: nothing of it is seen by another", ClearTest::nothingIsLeft);
        CHECKS.finish();
    }

    private static void isEmpty() {
        BreakPlaces x = Texts.of("RI RI OP SP AL");
        CHECKS.sameText("rules before", Texts.rules(x), "20 301 310 70 140 30");
        x.clear();
        CHECKS.same("count(0)", x.count(0), 0);
        CHECKS.same("count(1)", x.count(1), 0);
        CHECKS.same("count(2)", x.count(2), 0);
        CHECKS.sameText("rules of no text", Texts.rules(x), "20");
        CHECKS.sameText("breaks of no text", Texts.breaks(x), "0");
        CHECKS.same("next(0)", x.next(0), BreakPlaces.NONE);
        CHECKS.same("fit(0, 5)", x.fit(0, 5), 0);
        CHECKS.badIndex("at(0)", () -> x.at(0));
        CHECKS.badIndex("kind(0)", () -> x.kind(0));
        CHECKS.badIndex("breaks(1)", () -> x.breaks(1));
        CHECKS.badIndex("next(1)", () -> x.next(1));
        Texts.append(x, "ID");
        CHECKS.sameText("a text of one", Texts.characters(x), "1029");
    }

    private static void howManyItHad() {
        CHECKS.same("none", new BreakPlaces().clear(), 0);
        for (int many : new int[] {1, 2, 5, 1999, 2000}) {
            BreakPlaces x = Texts.filled(3, many);
            CHECKS.same("clear of " + many, x.clear(), many);
            CHECKS.same("clear again", x.clear(), 0);
            CHECKS.same("five more after " + many, x.add(1, 2, 3, 4, 5), 5);
            CHECKS.same("clear of these", x.clear(), 5);
        }
    }

    private static void toldOnesStay() {
        BreakPlaces x = Texts.of("AL");
        x.mark(0, Texts.GREATEST, Texts.WIDE, true);
        x.mark(0, Texts.GREATEST, Texts.PICTURE, true);
        CHECKS.same("clear", x.clear(), 1);
        Texts.append(x, "CM AL SP AL OP");
        CHECKS.sameText("a new text", Texts.rules(x), "20 280 70 180 310 30");
        CHECKS.same("clear of the new text", x.clear(), 5);
        Texts.append(x, "ID EM");
        CHECKS.sameText("PICTURE and EM", Texts.rules(x), "20 302 30");
        CHECKS.same("ranges of classes still to be told", Texts.freeRanges(x), 56);
        CHECKS.same("WIDE ranges still to be told", Texts.freeMarks(x, Texts.WIDE), 39);
        CHECKS.same("ranges of PICTURES still to be told", Texts.freeMarks(x, Texts.PICTURE), 39);
    }

    private static void nothingIsLeft() {
        String[][] cases = {
            {"RI RI RI", "RI RI RI", "20 301 310 30"},
            {"RI", "RI RI", "20 301 30"},
            {"AL OP SP", "SP AL", "20 180 30"},
            {"AL QU SP", "SP OP", "20 180 30"},
            {"AL ZW SP", "SP AL", "20 180 30"},
            {"AL HL", "HY ID", "20 310 30"},
            {"HL HY", "CM AL", "20 280 30"},
            {"AL ZWJ", "AL ID", "20 310 30"},
            {"AL BK", "AL ID", "20 310 30"},
            {"AL GL", "CM ID", "20 310 30"}};
        for (String[] one : cases) {
            BreakPlaces x = Texts.of(one[0]);
            Texts.rules(x);
            x.clear();
            Texts.append(x, one[1]);
            CHECKS.sameText(one[1] + " behind " + one[0], Texts.rules(x), one[2]);
        }
    }
}
