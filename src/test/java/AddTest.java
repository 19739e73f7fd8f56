/** Promise 5: add. */
public final class AddTest {
    private static final int NONE = BreakPlaces.NONE;
    private static final int GREATEST = Texts.GREATEST;
    private static final Checks CHECKS = new Checks();

    public static void main(String[] args) {
        CHECKS.sentence("Up to five characters more", AddTest::upToFive);
        CHECKS.sentence("up to the first that is NONE", AddTest::upToNone);
        CHECKS.sentence("how many the text has", AddTest::howMany);
        CHECKS.sentence("more: the place that was the end", AddTest::placeThatWasTheEnd);
        CHECKS.sentence("IllegalArgument: one before that is no character", AddTest::noCharacter);
        CHECKS.sentence("one before that: those behind NONE may be anything", AddTest::behindNone);
        CHECKS.sentence("IllegalState: there would be more than 2000", AddTest::moreThan2000);
        CHECKS.sentence("more than 2000: after some are gone", AddTest::roomAgain);
        CHECKS.sentence("IllegalArgument before IllegalState", AddTest::firstWins);
        CHECKS.finish();
    }

    private static void upToFive() {
        BreakPlaces x = new BreakPlaces();
        x.add(50, 51, 52, 53, 54);
        CHECKS.sameText("five", Texts.characters(x), "50 51 52 53 54");
        x.add(0, GREATEST, 0, GREATEST, 0);
        CHECKS.sameText("ten", Texts.characters(x), "50 51 52 53 54 0 1114111 0 1114111 0");
        x.add(7, 7, 7, 7, NONE);
        CHECKS.sameText("fourteen", Texts.characters(x),
                "50 51 52 53 54 0 1114111 0 1114111 0 7 7 7 7");
    }

    private static void dueAdd(String due, int a, int b, int c, int d, int e) {
        BreakPlaces x = new BreakPlaces();
        x.add(8, 9, NONE, NONE, NONE);
        int many = x.add(a, b, c, d, e);
        String told = "add(" + a + ", " + b + ", " + c + ", " + d + ", " + e + ")";
        CHECKS.sameText("the text behind " + told, Texts.characters(x), due);
        CHECKS.same(told, many, due.split(" ").length);
    }

    private static void upToNone() {
        dueAdd("8 9", NONE, 1, 2, 3, 4);
        dueAdd("8 9 10", 10, NONE, 2, 3, 4);
        dueAdd("8 9 20 21", 20, 21, NONE, 3, 4);
        dueAdd("8 9 30 31 32", 30, 31, 32, NONE, 4);
        dueAdd("8 9 40 41 42 43", 40, 41, 42, 43, NONE);
        dueAdd("8 9 50 51 52 53 54", 50, 51, 52, 53, 54);
        dueAdd("8 9", NONE, NONE, NONE, NONE, NONE);
        dueAdd("8 9 5", 5, NONE, 6, NONE, 7);
        dueAdd("8 9 0 1114111", 0, GREATEST, NONE, 0, GREATEST);
    }

    private static void howMany() {
        BreakPlaces x = new BreakPlaces();
        CHECKS.same("none", x.add(NONE, 1, 2, 3, 4), 0);
        CHECKS.same("one", x.add(10, NONE, 2, 3, 4), 1);
        CHECKS.same("two more", x.add(20, 21, NONE, 3, 4), 3);
        CHECKS.same("three more", x.add(30, 31, 32, NONE, 4), 6);
        CHECKS.same("four more", x.add(40, 41, 42, 43, NONE), 10);
        CHECKS.same("five more", x.add(50, 51, 52, 53, 54), 15);
        CHECKS.same("none more", x.add(NONE, NONE, NONE, NONE, NONE), 15);
        CHECKS.same("count(0)", x.count(0), 15);
    }

    private static void placeThatWasTheEnd() {
        BreakPlaces x = Texts.of("AL");
        CHECKS.sameText("one", Texts.rules(x), "20 30");
        Texts.append(x, "AL");
        CHECKS.sameText("two", Texts.rules(x), "20 280 30");
        Texts.append(x, "SP");
        CHECKS.sameText("three", Texts.rules(x), "20 280 70 30");
        Texts.append(x, "SP OP");
        CHECKS.sameText("five", Texts.rules(x), "20 280 70 70 180 30");
        CHECKS.sameText("breaks of five", Texts.breaks(x), "000012");
        BreakPlaces none = Texts.empty();
        CHECKS.sameText("no text", Texts.rules(none), "20");
        Texts.append(none, "ID ID");
        CHECKS.sameText("a text", Texts.rules(none), "20 310 30");
        none.add(NONE, NONE, NONE, NONE, NONE);
        CHECKS.sameText("the same text", Texts.rules(none), "20 310 30");
    }

    private static void noCharacter() {
        Refused refused = new Refused(CHECKS, () -> Texts.of("RI RI RI"));
        for (int wrong : new int[] {-2, GREATEST + 1, Integer.MIN_VALUE, Integer.MAX_VALUE}) {
            refused.badArgument("the first is " + wrong, x -> x.add(wrong, NONE, NONE, NONE, NONE));
            refused.badArgument("the second is " + wrong, x -> x.add(5, wrong, NONE, NONE, NONE));
            refused.badArgument("the third is " + wrong, x -> x.add(5, 5, wrong, NONE, NONE));
            refused.badArgument("the fourth is " + wrong, x -> x.add(5, 5, 5, wrong, NONE));
            refused.badArgument("the fifth is " + wrong, x -> x.add(5, 5, 5, 5, wrong));
            refused.badArgument("the first alone is " + wrong, x -> x.add(wrong, 5, 5, 5, 5));
        }
        Refused none = new Refused(CHECKS, BreakPlaces::new);
        none.badArgument("a wrong one and no text", x -> x.add(1, -2, NONE, NONE, NONE));
        CHECKS.same("the least and the greatest are characters",
                new BreakPlaces().add(0, GREATEST, 0, GREATEST, 0), 5);
    }

    private static void behindNone() {
        for (int any : new int[] {-2, GREATEST + 1, Integer.MIN_VALUE, Integer.MAX_VALUE}) {
            dueAdd("8 9", NONE, any, any, any, any);
            dueAdd("8 9 1", 1, NONE, any, any, any);
            dueAdd("8 9 1 2", 1, 2, NONE, any, any);
            dueAdd("8 9 1 2 3", 1, 2, 3, NONE, any);
        }
    }

    private static int upTo(int many, int nth) {
        return nth <= many ? 100 + nth : NONE;
    }

    private static int addSome(BreakPlaces x, int many) {
        return x.add(upTo(many, 1), upTo(many, 2), upTo(many, 3), upTo(many, 4), upTo(many, 5));
    }

    private static void moreThan2000() {
        for (int l = 1995; l <= 2000; l++) {
            for (int m = 0; m <= 5; m++) {
                int length = l;
                int many = m;
                String told = many + " more than " + length;
                if (length + many > 2000) {
                    Refused refused = new Refused(CHECKS, () -> Texts.filled(3, length));
                    refused.badState(told, x -> addSome(x, many));
                } else {
                    BreakPlaces x = Texts.filled(3, length);
                    CHECKS.same(told, addSome(x, many), length + many);
                    CHECKS.same("count(0), " + told, x.count(0), length + many);
                    CHECKS.same("the last, " + told, x.at(length + many - 1), many == 0 ? 3 : 100 + many);
                }
            }
        }
        BreakPlaces full = Texts.filled(3, 2000);
        CHECKS.same("rule(1999)", full.rule(1999), 280);
        CHECKS.same("rule(2000)", full.rule(2000), 30);
        CHECKS.badIndex("rule(2001)", () -> full.rule(2001));
        CHECKS.badIndex("at(2000)", () -> full.at(2000));
        CHECKS.same("nothing more, wrong ones behind", full.add(NONE, -2, -2, -2, -2), 2000);
    }

    private static void roomAgain() {
        BreakPlaces x = Texts.filled(3, 2000);
        Texts.cut(x, 7, 9);
        CHECKS.badState("three where two are gone", () -> addSome(x, 3));
        CHECKS.same("two where two are gone", addSome(x, 2), 2000);
        CHECKS.same("the last", x.at(1999), 102);
        CHECKS.badState("one more", () -> addSome(x, 1));
        CHECKS.same("clear", x.clear(), 2000);
        CHECKS.same("five after clear", addSome(x, 5), 5);
    }

    private static void firstWins() {
        Refused refused = new Refused(CHECKS, () -> Texts.filled(3, 2000));
        refused.badArgument("no character, and 2001", x -> x.add(-2, NONE, NONE, NONE, NONE));
        refused.badArgument("no character behind one too many", x -> x.add(1, GREATEST + 1, NONE, 1, 1));
        refused.badArgument("the fifth is no character, and 2005", x -> x.add(1, 2, 3, 4, -5));
        Refused nearly = new Refused(CHECKS, () -> Texts.filled(3, 1999));
        nearly.badArgument("the first would fit, the third is none", x -> x.add(1, 2, -3, NONE, NONE));
    }
}
