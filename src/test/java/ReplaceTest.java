/** Promise 6: replace. */
public final class ReplaceTest {
    private static final int NONE = BreakPlaces.NONE;
    private static final int GREATEST = 1114111;

    public static void main(String[] args) {
        Checks checks = new Checks();
        checkText(checks);
        checkRules(checks);
        checkWrongPlaces(checks);
        checkWrongCharacters(checks);
        checkLimit(checks);
        checkWhichWins(checks);
        checks.finish();
    }

    private static BreakPlaces oneToFive() {
        BreakPlaces x = new BreakPlaces();
        x.add(1, 2, 3, 4, 5);
        return x;
    }

    private static void checkOne(Checks checks, int[] call, String due) {
        BreakPlaces x = oneToFive();
        int many = x.replace(call[0], call[1], call[2], call[3], call[4]);
        String told = "replace(" + call[0] + ", " + call[1] + ", " + call[2] + ", ..)";
        checks.sameText(told, Texts.characters(x), due);
        checks.same(told, many, due.isEmpty() ? 0 : due.split(" ").length);
        checks.same("count(0) behind " + told, x.count(0), many);
    }

    private static void checkText(Checks checks) {
        checkOne(checks, new int[] {0, 0, NONE, 8, 9}, "1 2 3 4 5");
        checkOne(checks, new int[] {0, 0, 7, NONE, 9}, "7 1 2 3 4 5");
        checkOne(checks, new int[] {0, 0, 7, 8, 9}, "7 8 9 1 2 3 4 5");
        checkOne(checks, new int[] {5, 5, 7, 8, 9}, "1 2 3 4 5 7 8 9");
        checkOne(checks, new int[] {2, 2, 7, 8, NONE}, "1 2 7 8 3 4 5");
        checkOne(checks, new int[] {1, 4, 7, 8, 9}, "1 7 8 9 5");
        checkOne(checks, new int[] {1, 4, 7, NONE, NONE}, "1 7 5");
        checkOne(checks, new int[] {1, 2, 7, 8, 9}, "1 7 8 9 3 4 5");
        checkOne(checks, new int[] {1, 4, NONE, NONE, NONE}, "1 5");
        checkOne(checks, new int[] {0, 5, NONE, NONE, NONE}, "");
        checkOne(checks, new int[] {0, 5, 0, GREATEST, NONE}, "0 1114111");
        checkOne(checks, new int[] {4, 5, 7, NONE, -2}, "1 2 3 4 7");
        checkOne(checks, new int[] {0, 1, NONE, -2, GREATEST + 1}, "2 3 4 5");
    }

    private static void checkRules(Checks checks) {
        int sp = Texts.character("SP");
        BreakPlaces x = Texts.of("OP SP SP AL RI RI RI");
        checks.sameText("at first", Texts.rules(x), "20 70 70 140 310 301 310 30");
        x.replace(0, 1, Texts.character("AL"), NONE, NONE);
        checks.sameText("another first one", Texts.rules(x), "20 70 70 180 310 301 310 30");
        x.replace(4, 5, NONE, NONE, NONE);
        checks.sameText("an RI less", Texts.rules(x), "20 70 70 180 310 301 30");
        x.replace(5, 5, sp, sp, NONE);
        checks.sameText("SP between RI", Texts.rules(x), "20 70 70 180 310 70 70 180 30");
        x.replace(8, 8, Texts.character("CM"), NONE, NONE);
        checks.sameText("one more at the end", Texts.rules(x), "20 70 70 180 310 70 70 180 90 30");
        x.replace(0, 9, NONE, NONE, NONE);
        checks.sameText("all gone", Texts.rules(x), "20");
        x.replace(0, 0, Texts.character("CM"), Texts.character("AL"), NONE);
        checks.sameText("new ones", Texts.rules(x), "20 280 30");
    }

    private static void checkWrongPlaces(Checks checks) {
        BreakPlaces x = oneToFive();
        int[][] wrong = {{1, 0}, {5, 4}, {-1, 0}, {-1, -1}, {0, 6}, {5, 6}, {6, 6}, {6, 5},
            {Integer.MIN_VALUE, Integer.MAX_VALUE}, {Integer.MAX_VALUE, Integer.MIN_VALUE},
            {Integer.MAX_VALUE, Integer.MAX_VALUE}, {Integer.MIN_VALUE, Integer.MIN_VALUE}};
        for (int[] w : wrong) {
            checks.badIndex("from " + w[0] + " to " + w[1], () -> x.replace(w[0], w[1], 9, 9, 9));
            checks.badIndex("nothing from " + w[0] + " to " + w[1],
                    () -> x.replace(w[0], w[1], NONE, NONE, NONE));
        }
        checks.sameText("the text after wrong calls", Texts.characters(x), "1 2 3 4 5");
    }

    private static void checkWrongCharacters(Checks checks) {
        BreakPlaces x = oneToFive();
        int[] wrong = {-2, GREATEST + 1, Integer.MIN_VALUE, Integer.MAX_VALUE};
        for (int w : wrong) {
            checks.badArgument("the first is " + w, () -> x.replace(0, 3, w, NONE, NONE));
            checks.badArgument("the second is " + w, () -> x.replace(0, 3, 9, w, NONE));
            checks.badArgument("the third is " + w, () -> x.replace(0, 3, 9, 9, w));
        }
        checks.sameText("the text after wrong calls", Texts.characters(x), "1 2 3 4 5");
    }

    private static void checkLimit(Checks checks) {
        BreakPlaces x = new BreakPlaces();
        Texts.fill(x, 3, 399);
        x.add(3, 3, 3, 4, NONE);
        checks.badState("2001", () -> x.replace(1999, 1999, 7, 8, NONE));
        checks.badState("2001, one taken out", () -> x.replace(0, 1, 7, 8, 9));
        checks.same("2000, two taken out", x.replace(0, 2, 7, 8, 9), 2000);
        checks.same("the last moved on", x.at(1999), 4);
        checks.same("the new third", x.at(2), 9);
        checks.same("as many", x.replace(1997, 2000, 1, 2, 3), 2000);
        checks.badState("one more at 0", () -> x.replace(0, 0, 1, NONE, NONE));
        checks.badState("one more at the end", () -> x.replace(2000, 2000, 1, NONE, NONE));
        checks.same("none more", x.replace(2000, 2000, NONE, 1, 1), 2000);
        checks.same("the last", x.at(1999), 3);
        checks.same("all out", x.replace(0, 2000, NONE, NONE, NONE), 0);
    }

    private static void checkWhichWins(Checks checks) {
        BreakPlaces x = new BreakPlaces();
        Texts.fill(x, 3, 400);
        checks.badIndex("wrong in all ways", () -> x.replace(2, 1, 1, 2, -3));
        checks.badIndex("wrong place, wrong character", () -> x.replace(0, 2001, -3, NONE, NONE));
        checks.badArgument("wrong character, too many", () -> x.replace(0, 0, 1, 2, -3));
        checks.same("nothing has changed", x.count(0), 2000);
    }
}
