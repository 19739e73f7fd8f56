/** Promise 2: property. */
public final class PropertyTest {
    private static final int NONE = BreakPlaces.NONE;
    private static final int GREATEST = 1114111;

    public static void main(String[] args) {
        Checks checks = new Checks();
        checkRanges(checks);
        checkLastToldWins(checks);
        checkTextThatIsThere(checks);
        checkWrongArguments(checks);
        checkLimit(checks);
        checks.finish();
    }

    private static void checkRanges(Checks checks) {
        BreakPlaces x = new BreakPlaces();
        x.property(10, 20, Texts.classOf("ID"));
        x.property(0, 0, Texts.classOf("SP"));
        x.property(GREATEST, GREATEST, Texts.classOf("BK"));
        x.add(9, 10, 15, 20, 21);
        x.add(0, 1, GREATEST - 1, GREATEST, NONE);
        String[] due = {"AL", "ID", "ID", "ID", "AL", "SP", "AL", "AL", "BK"};
        for (int i = 0; i < due.length; i++) {
            checks.same("kind of " + x.at(i), x.kind(i), Texts.classOf(due[i]));
        }
        BreakPlaces all = new BreakPlaces();
        all.property(0, GREATEST, Texts.classOf("RI"));
        all.add(0, 500000, GREATEST, NONE, NONE);
        checks.sameText("rules of RI", Texts.rules(all), "20 301 310 30");
    }

    private static void checkLastToldWins(Checks checks) {
        BreakPlaces x = new BreakPlaces();
        x.property(0, 100, Texts.classOf("ID"));
        x.property(50, 60, Texts.classOf("NU"));
        x.property(55, 200, Texts.classOf("OP"));
        x.add(49, 50, 54, 55, 60);
        x.add(200, 201, NONE, NONE, NONE);
        String[] due = {"ID", "NU", "NU", "OP", "OP", "OP", "AL"};
        for (int i = 0; i < due.length; i++) {
            checks.same("kind of " + x.at(i), x.kind(i), Texts.classOf(due[i]));
        }
        x.property(0, 300, Texts.classOf("XX"));
        checks.same("kind of 50 told XX again", x.kind(1), Texts.classOf("AL"));
    }

    private static void checkTextThatIsThere(Checks checks) {
        BreakPlaces x = new BreakPlaces();
        x.add(5, 6, 7, NONE, NONE);
        checks.sameText("rules before property", Texts.rules(x), "20 280 280 30");
        x.property(6, 6, Texts.classOf("SP"));
        checks.sameText("rules after property", Texts.rules(x), "20 70 180 30");
        x.property(5, 5, Texts.classOf("OP"));
        checks.sameText("rules after property of the first", Texts.rules(x), "20 70 140 30");
        x.property(8, 8, Texts.classOf("CL"));
        x.add(8, NONE, NONE, NONE, NONE);
        checks.sameText("rules with one more", Texts.rules(x), "20 70 140 130 30");
        x.replace(0, 1, 6, 8, NONE);
        checks.sameText("rules with told ones put in", Texts.rules(x), "20 130 70 180 130 30");
        BreakPlaces ri = Texts.of("RI RI RI");
        checks.sameText("rules of RI", Texts.rules(ri), "20 301 310 30");
        ri.property(0, 0, Texts.classOf("SP"));
        checks.sameText("rules of RI, another class told", Texts.rules(ri), "20 301 310 30");
    }

    private static void checkWrongArguments(Checks checks) {
        BreakPlaces x = new BreakPlaces();
        x.add(0, 5, GREATEST, NONE, NONE);
        checks.badArgument("first -1", () -> x.property(-1, 5, 4));
        checks.badArgument("last -1", () -> x.property(0, -1, 4));
        checks.badArgument("first too great", () -> x.property(GREATEST + 1, GREATEST + 1, 4));
        checks.badArgument("last too great", () -> x.property(0, GREATEST + 1, 4));
        checks.badArgument("first above last", () -> x.property(6, 5, 4));
        checks.badArgument("class -1", () -> x.property(0, 5, -1));
        checks.badArgument("class 44", () -> x.property(0, 5, 44));
        checks.badArgument("least numbers",
                () -> x.property(Integer.MIN_VALUE, Integer.MIN_VALUE, Integer.MIN_VALUE));
        checks.badArgument("greatest numbers",
                () -> x.property(Integer.MAX_VALUE, Integer.MAX_VALUE, Integer.MAX_VALUE));
        checks.sameText("rules after wrong calls", Texts.rules(x), "20 280 280 30");
        for (int k = 0; k <= 43; k++) {
            x.property(5, 5, k);
        }
        checks.same("kind after class 43", x.kind(1), Texts.classOf("NS"));
    }

    private static void checkLimit(Checks checks) {
        BreakPlaces x = new BreakPlaces();
        x.add(7, NONE, NONE, NONE, NONE);
        for (int i = 0; i < 99; i++) {
            x.property(7, 7, Texts.classOf("ID"));
        }
        checks.badArgument("a wrong call does not count", () -> x.property(7, 6, 0));
        x.property(7, 7, Texts.classOf("NU"));
        checks.same("the 100th range holds", x.kind(0), Texts.classOf("NU"));
        checks.badState("the 101st range", () -> x.property(7, 7, Texts.classOf("ID")));
        checks.badArgument("IllegalArgument wins", () -> x.property(7, 7, 44));
        checks.same("kind after the 101st", x.kind(0), Texts.classOf("NU"));
        checks.same("clear", x.clear(), 1);
        checks.badState("ranges outlast the text", () -> x.property(0, 0, 0));
        x.mark(7, 7, 0, true);
        x.mark(7, 7, 1, true);
    }
}
