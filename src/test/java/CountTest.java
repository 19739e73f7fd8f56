/** Promise 14: count. */
public final class CountTest {
    private static final int NONE = BreakPlaces.NONE;
    private static final Checks CHECKS = new Checks();

    public static void main(String[] args) {
        CHECKS.sentence("what = 0 characters", CountTest::characters);
        CHECKS.sentence("1 places that MAY", CountTest::placesThatMay);
        CHECKS.sentence("2 that MUST", CountTest::placesThatMust);
        CHECKS.sentence("NONE for another what", CountTest::anotherWhat);
        CHECKS.sentence("count, kept up to date while the text is edited", CountTest::afterEdits);
        CHECKS.finish();
    }

    private static void characters() {
        CHECKS.same("of no text", new BreakPlaces().count(0), 0);
        for (int many : new int[] {1, 2, 5, 1999, 2000}) {
            CHECKS.same("of " + many, Texts.filled(3, many).count(0), many);
        }
    }

    private static BreakPlaces allOf(int many, String name) {
        BreakPlaces x = Texts.filled(3, many);
        x.property(3, 3, Texts.classOf(name));
        return x;
    }

    private static void placesThatMay() {
        CHECKS.same("of no text", new BreakPlaces().count(1), 0);
        CHECKS.same("of one ID: not its ends", allOf(1, "ID").count(1), 0);
        CHECKS.same("of two ID", allOf(2, "ID").count(1), 1);
        CHECKS.same("of 2000 ID", allOf(2000, "ID").count(1), 1999);
        CHECKS.same("of 2000 AL", allOf(2000, "AL").count(1), 0);
        CHECKS.same("of 2000 RI", allOf(2000, "RI").count(1), 999);
        CHECKS.same("of 2000 LF", allOf(2000, "LF").count(1), 0);
        CHECKS.same("by rules 8, 18, 20, 31", Texts.of("AL ZW AL SP AL CB ID ID").count(1), 5);
    }

    private static void placesThatMust() {
        CHECKS.same("of no text", new BreakPlaces().count(2), 0);
        CHECKS.same("of one ID: its end", allOf(1, "ID").count(2), 1);
        CHECKS.same("of one LF: its end", allOf(1, "LF").count(2), 1);
        CHECKS.same("of 2000 ID", allOf(2000, "ID").count(2), 1);
        CHECKS.same("of 2000 LF", allOf(2000, "LF").count(2), 2000);
        CHECKS.same("of 2000 BK", allOf(2000, "BK").count(2), 2000);
        CHECKS.same("CR LF once", Texts.of("CR LF AL CR LF").count(2), 2);
        CHECKS.same("CR, NL, BK, LF", Texts.of("CR NL BK LF AL").count(2), 5);
    }

    private static void anotherWhat() {
        for (int other : new int[] {-1, 3, 4, 20, Integer.MIN_VALUE, Integer.MAX_VALUE}) {
            CHECKS.same("count(" + other + ") of no text", new BreakPlaces().count(other), NONE);
            CHECKS.same("count(" + other + ") of a text", Texts.of("AL SP AL").count(other), NONE);
        }
    }

    private static void due(String of, BreakPlaces x, int all, int may, int must) {
        CHECKS.same("count(0) of " + of, x.count(0), all);
        CHECKS.same("count(1) of " + of, x.count(1), may);
        CHECKS.same("count(2) of " + of, x.count(2), must);
    }

    private static void afterEdits() {
        BreakPlaces x = Texts.of("AL SP AL CR LF ID ID LF");
        due("a text", x, 8, 2, 2);
        Texts.cut(x, 3, 4);
        due("the text without CR", x, 7, 2, 2);
        Texts.append(x, "BK AL");
        due("the text and more", x, 9, 2, 4);
        x.loose(true);
        due("the LOOSE text", x, 9, 2, 4);
        Texts.append(x, "CJ");
        due("the LOOSE text and CJ", x, 10, 3, 4);
        x.loose(false);
        due("the text and CJ", x, 10, 2, 4);
        x.property(Texts.character("LF"), Texts.character("LF"), Texts.classOf("ID"));
        due("the text, LF an ID", x, 10, 5, 2);
        x.clear();
        due("no text", x, 0, 0, 0);
        x.add(NONE, NONE, NONE, NONE, NONE);
        due("still no text", x, 0, 0, 0);
        Texts.append(x, "ID");
        due("one character", x, 1, 0, 1);
    }
}
