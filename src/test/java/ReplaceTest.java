/** Promise 6: replace. */
public final class ReplaceTest {
    private static final int NONE = BreakPlaces.NONE;
    private static final int GREATEST = Texts.GREATEST;
    private static final Checks CHECKS = new Checks();

    public static void main(String[] args) {
        CHECKS.sentence("In the place of the characters from a position up to another one", ReplaceTest::places);
        CHECKS.sentence("(behind them; maybe none)", ReplaceTest::maybeNone);
        CHECKS.sentence("come up to three, up to the first that is NONE", ReplaceTest::upToNone);
        CHECKS.sentence("how many the text has", ReplaceTest::howMany);
        CHECKS.sentence("kept up to date while the text is edited", ReplaceTest::rulesAfterwards);
        CHECKS.sentence("IndexOutOfBounds: from is above to", ReplaceTest::fromAboveTo);
        CHECKS.sentence("IndexOutOfBounds: one is no place", ReplaceTest::noPlace);
        CHECKS.sentence("IllegalArgument: one of those is no character", ReplaceTest::noCharacter);
        CHECKS.sentence("one of those: what stands behind NONE may be anything", ReplaceTest::behindNone);
        CHECKS.sentence("IllegalState: there would be more than 2000", ReplaceTest::moreThan2000);
        CHECKS.sentence("where it lists more than one exception, the first one wins", ReplaceTest::firstWins);
        CHECKS.finish();
    }

    private static BreakPlaces oneToFive() {
        BreakPlaces x = new BreakPlaces();
        x.add(1, 2, 3, 4, 5);
        return x;
    }

    private static void due(String due, int from, int to, int a, int b, int c) {
        BreakPlaces x = oneToFive();
        int many = x.replace(from, to, a, b, c);
        String told = "replace(" + from + ", " + to + ", " + a + ", " + b + ", " + c + ")";
        CHECKS.sameText("the text behind " + told, Texts.characters(x), due);
        CHECKS.same(told, many, due.isEmpty() ? 0 : due.split(" ").length);
        CHECKS.same("count(0) behind " + told, x.count(0), many);
    }

    private static void places() {
        due("7 8 9 2 3 4 5", 0, 1, 7, 8, 9);
        due("1 7 8 9 3 4 5", 1, 2, 7, 8, 9);
        due("1 7 8 9 5", 1, 4, 7, 8, 9);
        due("1 7 5", 1, 4, 7, NONE, NONE);
        due("1 2 3 4 7", 4, 5, 7, NONE, NONE);
        due("1 2 3 4 7 8 9", 4, 5, 7, 8, 9);
        due("1 2 3 4 5 7", 5, 5, 7, NONE, NONE);
        due("7", 0, 5, 7, NONE, NONE);
        due("0 1114111", 0, 5, 0, GREATEST, NONE);
        due("1 5", 1, 4, NONE, NONE, NONE);
        due("2 3 4 5", 0, 1, NONE, NONE, NONE);
        due("1 2 3 4", 4, 5, NONE, NONE, NONE);
        due("", 0, 5, NONE, NONE, NONE);
    }

    private static void maybeNone() {
        due("7 1 2 3 4 5", 0, 0, 7, NONE, NONE);
        due("7 8 9 1 2 3 4 5", 0, 0, 7, 8, 9);
        due("1 2 7 8 3 4 5", 2, 2, 7, 8, NONE);
        due("1 2 3 4 7 5", 4, 4, 7, NONE, NONE);
        due("1 2 3 4 5 7 8 9", 5, 5, 7, 8, 9);
        for (int p = 0; p <= 5; p++) {
            due("1 2 3 4 5", p, p, NONE, NONE, NONE);
        }
        BreakPlaces x = new BreakPlaces();
        CHECKS.same("none in no text", x.replace(0, 0, NONE, NONE, NONE), 0);
        CHECKS.same("three in no text", x.replace(0, 0, 7, 8, 9), 3);
        CHECKS.sameText("three in no text", Texts.characters(x), "7 8 9");
    }

    private static void upToNone() {
        due("1 4 5", 1, 3, NONE, 8, 9);
        due("1 7 4 5", 1, 3, 7, NONE, 9);
        due("1 7 8 4 5", 1, 3, 7, 8, NONE);
        due("1 7 8 9 4 5", 1, 3, 7, 8, 9);
        due("1 0 1114111 0 4 5", 1, 3, 0, GREATEST, 0);
    }

    private static void howMany() {
        BreakPlaces x = oneToFive();
        CHECKS.same("as many as before", x.replace(0, 3, 7, 8, 9), 5);
        CHECKS.same("three more", x.replace(5, 5, 7, 8, 9), 8);
        CHECKS.same("one less", x.replace(0, 1, NONE, 1, 1), 7);
        CHECKS.same("six less", x.replace(0, 7, 4, NONE, 1), 1);
        CHECKS.same("none left", x.replace(0, 1, NONE, NONE, NONE), 0);
        CHECKS.same("count(0)", x.count(0), 0);
    }

    private static void rulesAfterwards() {
        int sp = Texts.character("SP");
        BreakPlaces x = Texts.of("OP SP SP AL RI RI RI");
        CHECKS.sameText("at first", Texts.rules(x), "20 70 70 140 310 301 310 30");
        x.replace(0, 1, Texts.character("AL"), NONE, NONE);
        CHECKS.sameText("another first one", Texts.rules(x), "20 70 70 180 310 301 310 30");
        Texts.cut(x, 4, 5);
        CHECKS.sameText("an RI less", Texts.rules(x), "20 70 70 180 310 301 30");
        x.replace(5, 5, sp, sp, NONE);
        CHECKS.sameText("SP between RI", Texts.rules(x), "20 70 70 180 310 70 70 180 30");
        Texts.insert(x, 8, "CM");
        CHECKS.sameText("one more at the end", Texts.rules(x), "20 70 70 180 310 70 70 180 90 30");
        Texts.cut(x, 7, 9);
        CHECKS.sameText("two less at the end", Texts.rules(x), "20 70 70 180 310 70 70 30");
        Texts.cut(x, 0, 7);
        CHECKS.sameText("all gone", Texts.rules(x), "20");
        x.replace(0, 0, Texts.character("CM"), Texts.character("AL"), NONE);
        CHECKS.sameText("new ones", Texts.rules(x), "20 280 30");
        firstOf2000();
    }

    /** The first character alone decides for each of 1999 places behind it. */
    private static void firstOf2000() {
        BreakPlaces x = new BreakPlaces();
        x.property(4, 4, Texts.classOf("SP"));
        x.property(20, 20, Texts.classOf("OP"));
        x.property(37, 37, Texts.classOf("RI"));
        x.property(29, 29, Texts.classOf("ID"));
        Texts.fill(x, 37, 2000);
        CHECKS.same("1999 RI before it", x.rule(1999), 301);
        x.replace(0, 1, 29, NONE, NONE);
        CHECKS.same("1998 RI before it", x.rule(1999), 310);
        CHECKS.same("MAY with 1999 RI behind ID", x.count(1), 1000);
        x.property(37, 37, Texts.classOf("SP"));
        x.replace(1999, 2000, 29, NONE, NONE);
        CHECKS.same("ID and 1998 SP before it", x.rule(1999), 180);
        x.replace(0, 1, 20, NONE, NONE);
        CHECKS.same("OP and 1998 SP before it", x.rule(1999), 140);
    }

    private static void fromAboveTo() {
        Refused refused = new Refused(CHECKS, ReplaceTest::oneToFive);
        int[][] wrong = {{1, 0}, {2, 1}, {5, 4}, {5, 0}, {0, -1}, {6, 5},
            {Integer.MAX_VALUE, Integer.MIN_VALUE}, {0, Integer.MIN_VALUE}, {Integer.MAX_VALUE, 5}};
        for (int[] w : wrong) {
            String told = "from " + w[0] + " to " + w[1];
            refused.badIndex(told, x -> x.replace(w[0], w[1], 9, 9, 9));
            refused.badIndex(told + " with none", x -> x.replace(w[0], w[1], NONE, NONE, NONE));
        }
        due("1 9 2 3 4 5", 1, 1, 9, NONE, NONE);
    }

    private static void noPlace() {
        Refused refused = new Refused(CHECKS, ReplaceTest::oneToFive);
        int[][] wrong = {{-1, 0}, {-1, -1}, {-1, 5}, {0, 6}, {5, 6}, {6, 6}, {-1, 6}, {0, 2000}, {2000, 2000},
            {Integer.MIN_VALUE, Integer.MAX_VALUE}, {Integer.MAX_VALUE, Integer.MAX_VALUE},
            {Integer.MIN_VALUE, Integer.MIN_VALUE}, {0, Integer.MAX_VALUE}, {Integer.MIN_VALUE, 0}};
        for (int[] w : wrong) {
            String told = "from " + w[0] + " to " + w[1];
            refused.badIndex(told, x -> x.replace(w[0], w[1], 9, 9, 9));
            refused.badIndex(told + " with none", x -> x.replace(w[0], w[1], NONE, NONE, NONE));
        }
        due("1 2 3 4 5 9", 5, 5, 9, NONE, NONE);
        due("9", 0, 5, 9, NONE, NONE);
        Refused none = new Refused(CHECKS, BreakPlaces::new);
        none.badIndex("from 0 to 1 of no text", x -> x.replace(0, 1, NONE, NONE, NONE));
        none.badIndex("from 1 to 1 of no text", x -> x.replace(1, 1, 9, NONE, NONE));
        Refused full = new Refused(CHECKS, () -> Texts.filled(3, 2000));
        full.badIndex("from 2000 to 2001 of 2000", x -> x.replace(2000, 2001, NONE, NONE, NONE));
        BreakPlaces shorter = oneToFive();
        Texts.cut(shorter, 4, 5);
        CHECKS.badIndex("a place that is gone", () -> shorter.replace(4, 5, NONE, NONE, NONE));
    }

    private static void noCharacter() {
        Refused refused = new Refused(CHECKS, () -> Texts.of("RI RI RI SP RI"));
        for (int wrong : new int[] {-2, GREATEST + 1, Integer.MIN_VALUE, Integer.MAX_VALUE}) {
            refused.badArgument("the first is " + wrong, x -> x.replace(0, 3, wrong, NONE, NONE));
            refused.badArgument("the second is " + wrong, x -> x.replace(0, 3, 9, wrong, NONE));
            refused.badArgument("the third is " + wrong, x -> x.replace(0, 3, 9, 9, wrong));
            refused.badArgument("the first alone is " + wrong, x -> x.replace(5, 5, wrong, 9, 9));
        }
        due("1 0 1114111 4 5", 1, 3, 0, GREATEST, NONE);
    }

    private static void behindNone() {
        for (int any : new int[] {-2, GREATEST + 1, Integer.MIN_VALUE, Integer.MAX_VALUE}) {
            due("2 3 4 5", 0, 1, NONE, any, any);
            due("1 2 3 4 7", 4, 5, 7, NONE, any);
        }
    }

    private static int upTo(int many, int nth) {
        return nth <= many ? 100 + nth : NONE;
    }

    private static int put(BreakPlaces x, int from, int to, int many) {
        return x.replace(from, to, upTo(many, 1), upTo(many, 2), upTo(many, 3));
    }

    /** Some out, some in, at the front and at the end of texts that are full or nearly so. */
    private static void moreThan2000() {
        for (int length = 1997; length <= 2000; length++) {
            for (int out = 0; out <= 3; out++) {
                for (int in = 0; in <= 3; in++) {
                    putIn(length, 0, out, in);
                    putIn(length, length - out, length, in);
                }
            }
        }
        CHECKS.same("all out of 2000", put(Texts.filled(3, 2000), 0, 2000, 0), 0);
        CHECKS.same("three for 2000", put(Texts.filled(3, 2000), 0, 2000, 3), 3);
    }

    private static void putIn(int length, int from, int to, int in) {
        String told = in + " from " + from + " to " + to + " of " + length;
        int due = length - (to - from) + in;
        if (due > 2000) {
            Refused refused = new Refused(CHECKS, () -> withMarkedEnds(length));
            refused.badState(told, x -> put(x, from, to, in));
            return;
        }
        BreakPlaces x = withMarkedEnds(length);
        CHECKS.same(told, put(x, from, to, in), due);
        CHECKS.same("count(0), " + told, x.count(0), due);
        if (in > 0) {
            CHECKS.same("the last that came, " + told, x.at(from + in - 1), 100 + in);
        }
        if (to < length) {
            CHECKS.same("the last of all, " + told, x.at(due - 1), 5);
        }
        if (from > 0) {
            CHECKS.same("the first of all, " + told, x.at(0), 4);
        }
    }

    private static BreakPlaces withMarkedEnds(int length) {
        BreakPlaces x = Texts.filled(3, length);
        x.replace(0, 1, 4, NONE, NONE);
        x.replace(length - 1, length, 5, NONE, NONE);
        return x;
    }

    private static void firstWins() {
        Refused full = new Refused(CHECKS, () -> Texts.filled(3, 2000));
        full.badIndex("wrong in all ways, from above to", x -> x.replace(2, 1, 1, 2, -3));
        full.badIndex("wrong in all ways, no place", x -> x.replace(2001, 2001, 1, 2, -3));
        full.badIndex("no place, no character", x -> x.replace(0, 2001, -3, NONE, NONE));
        full.badIndex("no place, too many", x -> x.replace(-1, 0, 1, 2, 3));
        full.badIndex("from above to, too many", x -> x.replace(1, 0, 1, 2, 3));
        full.badArgument("no character, too many", x -> x.replace(0, 0, 1, 2, -3));
        full.badArgument("no character alone, too many", x -> x.replace(2000, 2000, GREATEST + 1, NONE, 1));
        Refused some = new Refused(CHECKS, ReplaceTest::oneToFive);
        some.badIndex("from above to, no character", x -> x.replace(2, 1, -2, NONE, NONE));
        some.badIndex("no place, no character", x -> x.replace(0, 6, GREATEST + 1, NONE, NONE));
    }
}
