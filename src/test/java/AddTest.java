/** Promise 5: add. */
public final class AddTest {
    private static final int NONE = BreakPlaces.NONE;
    private static final int GREATEST = 1114111;

    public static void main(String[] args) {
        Checks checks = new Checks();
        checkUpToNone(checks);
        checkWrongCharacters(checks);
        checkLimit(checks);
        checkPlaceThatWasTheEnd(checks);
        checks.finish();
    }

    private static void checkUpToNone(Checks checks) {
        BreakPlaces x = new BreakPlaces();
        checks.same("none", x.add(NONE, 1, 2, 3, 4), 0);
        checks.same("one", x.add(10, NONE, 2, 3, 4), 1);
        checks.same("two", x.add(20, 21, NONE, 3, 4), 3);
        checks.same("three", x.add(30, 31, 32, NONE, 4), 6);
        checks.same("four", x.add(40, 41, 42, 43, NONE), 10);
        checks.same("five", x.add(50, 51, 52, 53, 54), 15);
        checks.same("none again", x.add(NONE, NONE, NONE, NONE, NONE), 15);
        checks.same("least and greatest", x.add(0, GREATEST, NONE, NONE, NONE), 17);
        checks.same("wrong ones behind NONE", x.add(7, NONE, -2, GREATEST + 1, -9), 18);
        checks.sameText("the text", Texts.characters(x),
                "10 20 21 30 31 32 40 41 42 43 50 51 52 53 54 0 1114111 7");
    }

    private static void checkWrongCharacters(Checks checks) {
        BreakPlaces x = new BreakPlaces();
        x.add(1, 2, NONE, NONE, NONE);
        int[] wrong = {-2, GREATEST + 1, Integer.MIN_VALUE, Integer.MAX_VALUE};
        for (int w : wrong) {
            checks.badArgument("the first is " + w, () -> x.add(w, NONE, NONE, NONE, NONE));
            checks.badArgument("the second is " + w, () -> x.add(5, w, NONE, NONE, NONE));
            checks.badArgument("the third is " + w, () -> x.add(5, 5, w, NONE, NONE));
            checks.badArgument("the fourth is " + w, () -> x.add(5, 5, 5, w, NONE));
            checks.badArgument("the fifth is " + w, () -> x.add(5, 5, 5, 5, w));
        }
        checks.sameText("the text after wrong calls", Texts.characters(x), "1 2");
    }

    private static void checkLimit(Checks checks) {
        BreakPlaces x = new BreakPlaces();
        Texts.fill(x, 3, 399);
        checks.same("1999", x.add(6, 7, 8, 9, NONE), 1999);
        checks.badState("2001", () -> x.add(1, 2, NONE, NONE, NONE));
        checks.badState("2004", () -> x.add(1, 2, 3, 4, 5));
        checks.badArgument("IllegalArgument wins", () -> x.add(1, 2, 3, 4, -5));
        checks.same("none of them came", x.count(0), 1999);
        checks.same("2000", x.add(5, NONE, NONE, NONE, NONE), 2000);
        checks.badState("one more", () -> x.add(1, NONE, NONE, NONE, NONE));
        checks.same("none more", x.add(NONE, 1, 1, 1, 1), 2000);
        checks.same("the last", x.at(1999), 5);
        checks.same("the one before", x.at(1998), 9);
        checks.same("rule at 1999", x.rule(1999), 280);
        checks.same("rule at 2000", x.rule(2000), 30);
        checks.same("fit from 0 on", x.fit(0, 2000), 2000);
        checks.badIndex("place 2001", () -> x.rule(2001));
        checks.badIndex("position 2000", () -> x.at(2000));
    }

    private static void checkPlaceThatWasTheEnd(Checks checks) {
        BreakPlaces x = Texts.of("AL");
        checks.sameText("one", Texts.rules(x), "20 30");
        Texts.append(x, "AL");
        checks.sameText("two", Texts.rules(x), "20 280 30");
        Texts.append(x, "SP");
        checks.sameText("three", Texts.rules(x), "20 280 70 30");
        Texts.append(x, "SP OP");
        checks.sameText("five", Texts.rules(x), "20 280 70 70 180 30");
    }
}
