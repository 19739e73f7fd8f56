/** Promise 7: clear. */
public final class ClearTest {
    public static void main(String[] args) {
        Checks checks = new Checks();
        BreakPlaces x = Texts.of("RI RI OP SP AL");
        x.mark(0, 1114111, 0, true);
        checks.sameText("rules before", Texts.rules(x), "20 301 310 70 140 30");
        checks.same("clear", x.clear(), 5);
        checks.same("count(0)", x.count(0), 0);
        checks.same("count(1)", x.count(1), 0);
        checks.same("count(2)", x.count(2), 0);
        checks.sameText("rules of no text", Texts.rules(x), "20");
        checks.badIndex("at(0)", () -> x.at(0));
        checks.badIndex("breaks(1)", () -> x.breaks(1));
        checks.same("clear again", x.clear(), 0);
        Texts.append(x, "CM AL SP AL OP");
        checks.sameText("a new text, classes and marks as told", Texts.rules(x), "20 280 70 180 310 30");
        checks.same("clear of the new text", x.clear(), 5);
        Texts.append(x, "RI RI");
        checks.sameText("no RI of an older text counts", Texts.rules(x), "20 301 30");
        checks.finish();
    }
}
