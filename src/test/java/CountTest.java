/** Promise 14: count. */
public final class CountTest {
    private static final int NONE = BreakPlaces.NONE;

    public static void main(String[] args) {
        Checks checks = new Checks();
        BreakPlaces x = Texts.of("AL SP AL CR LF ID ID LF");
        due(checks, "a text", x, 8, 2, 2);
        x.replace(3, 4, NONE, NONE, NONE);
        due(checks, "the text without CR", x, 7, 2, 2);
        Texts.append(x, "BK AL");
        due(checks, "the text and more", x, 9, 2, 4);
        x.loose(true);
        due(checks, "the LOOSE text", x, 9, 2, 4);
        x.clear();
        due(checks, "no text", x, 0, 0, 0);
        x.add(NONE, NONE, NONE, NONE, NONE);
        due(checks, "still no text", x, 0, 0, 0);
        Texts.append(x, "ID");
        due(checks, "one character", x, 1, 0, 1);
        int[] others = {-1, 3, 4, 20, Integer.MIN_VALUE, Integer.MAX_VALUE};
        for (int other : others) {
            checks.same("count(" + other + ")", x.count(other), NONE);
        }
        checkLong(checks);
        checks.finish();
    }

    private static void due(Checks checks, String of, BreakPlaces x, int all, int may, int must) {
        checks.same("count(0) of " + of, x.count(0), all);
        checks.same("count(1) of " + of, x.count(1), may);
        checks.same("count(2) of " + of, x.count(2), must);
    }

    private static void checkLong(Checks checks) {
        BreakPlaces x = Texts.empty();
        Texts.fill(x, Texts.character("ID"), 400);
        due(checks, "2000 ID", x, 2000, 1999, 1);
        x.property(0, 1114111, Texts.classOf("LF"));
        due(checks, "2000 LF", x, 2000, 0, 2000);
        x.property(0, 1114111, Texts.classOf("RI"));
        due(checks, "2000 RI", x, 2000, 999, 1);
    }
}
