/** Promise 7: clear. */
public final class ClearTest {
    public static void main(String[] args) {
        Checks checks = new Checks();
        BreakPlaces x = Texts.of("RI RI OP SP AL");
        x.mark(0, 1114111, 0, true);
        checks.sameText("rules before", Texts.rules(x), "20 301 310 70 140 30");
        checks.same("clear", x.clear(), 5);
        checks.same("count(0)", x.count(0), 0);
        checks.same("count(1)", x.count(1), 0);
        checks.same("count(2)", x.count(2), 0);
        checks.sameText("rules of no text", Texts.rules(x), "20");
        checks.badIndex("at(0)", () -> x.at(0));
        checks.badIndex("breaks(1)", () -> x.breaks(1));
        checks.same("clear again", x.clear(), 0);
        Texts.append(x, "CM AL SP AL OP");
        checks.sameText("a new text, classes and marks as told", Texts.rules(x), "20 280 70 180 310 30");
        checks.same("clear of the new text", x.clear(), 5);
        Texts.append(x, "RI RI");
        checks.sameText("no RI of an older text counts", Texts.rules(x), "20 301 30");
        checkNothingIsLeft(checks);
        checks.finish();
    }

    /** What was read of an older text must not be seen by the rules of a new one. */
    private static void checkNothingIsLeft(Checks checks) {
        String[][] cases = {
            {"RI RI RI", "RI RI RI", "20 301 310 30"},
            {"AL OP SP", "SP AL", "20 180 30"},
            {"AL QU SP", "SP OP", "20 180 30"},
            {"AL ZW SP", "SP AL", "20 180 30"},
            {"AL HL", "HY ID", "20 310 30"},
            {"HL HY", "CM AL", "20 280 30"},
            {"AL ZWJ", "AL ID", "20 310 30"},
            {"AL BK", "AL ID", "20 310 30"},
            {"AL GL", "CM ID", "20 310 30"}};
        for (String[] one : cases) {
            BreakPlaces x = Texts.of(one[0]);
            Texts.rules(x);
            x.clear();
            Texts.append(x, one[1]);
            checks.sameText(one[1] + " behind " + one[0], Texts.rules(x), one[2]);
        }
    }
}
