/** Promise 2: property. */
public final class PropertyTest {
    private static final int NONE = BreakPlaces.NONE;
    private static final int GREATEST = Texts.GREATEST;
    private static final Checks CHECKS = new Checks();

    public static void main(String[] args) {
        CHECKS.sentence("Characters of a range have a class.", PropertyTest::charactersOfARange);
        CHECKS.sentence("have a class: the text that is there", PropertyTest::textThatIsThere);
        CHECKS.sentence("of several that hold a character the one told last", PropertyTest::toldLast);
        CHECKS.sentence("IllegalArgument: a bound is no character", PropertyTest::boundIsNoCharacter);
        CHECKS.sentence("IllegalArgument: first is above last", PropertyTest::firstAboveLast);
        CHECKS.sentence("IllegalArgument: there is no such class", PropertyTest::noSuchClass);
        CHECKS.sentence("IllegalState: there are 100 ranges of classes", PropertyTest::hundredRanges);
        CHECKS.sentence("100 ranges: what counts as one", PropertyTest::whatCountsAsARange);
        CHECKS.sentence("IllegalArgument before IllegalState", PropertyTest::firstWins);
        CHECKS.finish();
    }

    private static void dueKinds(BreakPlaces x, String... due) {
        for (int i = 0; i < due.length; i++) {
            CHECKS.same("kind of " + x.at(i), x.kind(i), Texts.classOf(due[i]));
        }
    }

    private static void addSome(BreakPlaces x) {
        x.add(9, 10, 15, 20, 21);
        x.add(0, 1, GREATEST - 1, GREATEST, NONE);
    }

    private static void charactersOfARange() {
        // The text comes behind what is told of its characters, and before it.
        for (boolean isThere : new boolean[] {false, true}) {
            BreakPlaces x = new BreakPlaces();
            if (isThere) {
                addSome(x);
            }
            x.property(10, 20, Texts.classOf("ID"));
            x.property(0, 0, Texts.classOf("SP"));
            x.property(GREATEST, GREATEST, Texts.classOf("BK"));
            if (!isThere) {
                addSome(x);
            }
            dueKinds(x, "AL", "ID", "ID", "ID", "AL", "SP", "AL", "AL", "BK");
        }
        BreakPlaces all = new BreakPlaces();
        all.property(0, GREATEST, Texts.classOf("RI"));
        all.add(0, 500000, GREATEST, NONE, NONE);
        CHECKS.sameText("rules when all are RI", Texts.rules(all), "20 301 310 30");
    }

    private static void textThatIsThere() {
        BreakPlaces x = new BreakPlaces();
        x.add(5, 6, 7, NONE, NONE);
        CHECKS.sameText("rules before property", Texts.rules(x), "20 280 280 30");
        x.property(6, 6, Texts.classOf("SP"));
        CHECKS.sameText("rules after property", Texts.rules(x), "20 70 180 30");
        x.property(5, 5, Texts.classOf("OP"));
        CHECKS.sameText("rules after property of the first", Texts.rules(x), "20 70 140 30");
        x.property(8, 8, Texts.classOf("CL"));
        x.add(8, NONE, NONE, NONE, NONE);
        CHECKS.sameText("rules with one more", Texts.rules(x), "20 70 140 130 30");
        x.replace(0, 1, 6, 8, NONE);
        CHECKS.sameText("rules with told ones put in", Texts.rules(x), "20 130 70 180 130 30");
        BreakPlaces ri = Texts.of("RI RI RI");
        CHECKS.sameText("rules of RI", Texts.rules(ri), "20 301 310 30");
        ri.property(0, 0, Texts.classOf("SP"));
        CHECKS.sameText("rules of RI, another class told", Texts.rules(ri), "20 301 310 30");
        BreakPlaces full = Texts.filled(7, 2000);
        CHECKS.same("MAY in 2000 untold", full.count(1), 0);
        full.property(7, 7, Texts.classOf("ID"));
        CHECKS.same("MAY in 2000 ID", full.count(1), 1999);
        CHECKS.same("kind of the last of 2000", full.kind(1999), Texts.classOf("ID"));
    }

    private static void toldLast() {
        BreakPlaces x = new BreakPlaces();
        x.property(0, 100, Texts.classOf("ID"));
        x.property(50, 60, Texts.classOf("NU"));
        x.property(55, 200, Texts.classOf("OP"));
        x.add(49, 50, 54, 55, 60);
        x.add(200, 201, NONE, NONE, NONE);
        dueKinds(x, "ID", "NU", "NU", "OP", "OP", "OP", "AL");
        x.property(0, 300, Texts.classOf("XX"));
        dueKinds(x, "AL", "AL", "AL", "AL", "AL", "AL", "AL");
        x.property(50, 50, Texts.classOf("BK"));
        dueKinds(x, "AL", "BK", "AL", "AL", "AL", "AL", "AL");
        // Told before the text is there, too: the first of a hundred is as good as the last.
        BreakPlaces y = new BreakPlaces();
        for (int i = 0; i < 100; i++) {
            y.property(i, i + 1, i % 2 == 0 ? Texts.classOf("SP") : Texts.classOf("NU"));
        }
        y.add(0, 1, 2, 99, 100);
        dueKinds(y, "SP", "NU", "SP", "NU", "NU");
    }

    private static BreakPlaces some() {
        BreakPlaces x = new BreakPlaces();
        x.property(10, 20, Texts.classOf("RI"));
        x.add(0, 5, 10, 20, GREATEST);
        return x;
    }

    private static void boundIsNoCharacter() {
        Refused refused = new Refused(CHECKS, PropertyTest::some);
        for (int wrong : new int[] {-1, -2, GREATEST + 1, Integer.MIN_VALUE, Integer.MAX_VALUE}) {
            refused.badArgument("first and last " + wrong, x -> x.property(wrong, wrong, 4));
            refused.badArgument("first " + wrong, x -> x.property(wrong, GREATEST, 4));
            refused.badArgument("last " + wrong, x -> x.property(0, wrong, 4));
        }
        BreakPlaces x = some();
        CHECKS.isTaken("0 to 0", () -> x.property(0, 0, Texts.classOf("SP")));
        CHECKS.isTaken("the greatest", () -> x.property(GREATEST, GREATEST, Texts.classOf("SP")));
        dueKinds(x, "SP", "AL", "RI", "RI", "SP");
        CHECKS.isTaken("all", () -> x.property(0, GREATEST, Texts.classOf("ID")));
        dueKinds(x, "ID", "ID", "ID", "ID", "ID");
    }

    private static void firstAboveLast() {
        Refused refused = new Refused(CHECKS, PropertyTest::some);
        refused.badArgument("6 to 5", x -> x.property(6, 5, 4));
        refused.badArgument("1 to 0", x -> x.property(1, 0, 4));
        refused.badArgument("the greatest to 0", x -> x.property(GREATEST, 0, 4));
        refused.badArgument("the greatest to the one before", x -> x.property(GREATEST, GREATEST - 1, 4));
        BreakPlaces x = some();
        CHECKS.isTaken("5 to 5", () -> x.property(5, 5, Texts.classOf("SP")));
        dueKinds(x, "AL", "SP", "RI", "RI", "AL");
    }

    private static void noSuchClass() {
        Refused refused = new Refused(CHECKS, PropertyTest::some);
        for (int wrong : new int[] {-1, 44, 45, 64, Integer.MIN_VALUE, Integer.MAX_VALUE}) {
            refused.badArgument("class " + wrong, x -> x.property(0, 5, wrong));
        }
        String[] as = {"AL", "AL", "AL", "AL", "CM", "NS"};
        BreakPlaces x = some();
        for (int k = 0; k <= 43; k++) {
            int kind = k;
            CHECKS.isTaken("class " + k, () -> x.property(5, 5, kind));
            CHECKS.same("kind by class " + k, x.kind(1), k < 38 ? k : Texts.classOf(as[k - 38]));
        }
    }

    /** 100 ranges, of which the last makes 7 a NU; the others make it an ID. */
    private static BreakPlaces full() {
        BreakPlaces x = new BreakPlaces();
        x.add(7, 8, NONE, NONE, NONE);
        for (int i = 0; i < 99; i++) {
            x.property(7, 7, Texts.classOf("ID"));
        }
        x.property(7, 7, Texts.classOf("NU"));
        return x;
    }

    private static void hundredRanges() {
        BreakPlaces x = full();
        CHECKS.same("kind by the 100th range", x.kind(0), Texts.classOf("NU"));
        CHECKS.same("rule by the 100th range", x.rule(1), 230);
        Refused refused = new Refused(CHECKS, PropertyTest::full);
        refused.badState("the 101st range", y -> y.property(7, 7, Texts.classOf("ID")));
        refused.badState("the 101st range, of another character", y -> y.property(8, 8, 0));
        refused.badState("the 101st range, of all", y -> y.property(0, GREATEST, 43));
    }

    private static void whatCountsAsARange() {
        BreakPlaces same = new BreakPlaces();
        for (int i = 0; i < 3; i++) {
            same.property(7, 7, Texts.classOf("ID"));
        }
        CHECKS.same("the same range told three times", Texts.freeRanges(same), 97);
        BreakPlaces wrong = new BreakPlaces();
        CHECKS.badArgument("a wrong one", () -> wrong.property(7, 6, 0));
        CHECKS.same("after a wrong one", Texts.freeRanges(wrong), 100);
        BreakPlaces marked = new BreakPlaces();
        marked.mark(0, GREATEST, Texts.WIDE, true);
        marked.mark(0, GREATEST, Texts.PICTURE, true);
        CHECKS.same("after marks", Texts.freeRanges(marked), 100);
        BreakPlaces cleared = full();
        CHECKS.same("clear", cleared.clear(), 2);
        CHECKS.same("after clear", Texts.freeRanges(cleared), 0);
        CHECKS.same("WIDE ranges when it is full", Texts.freeMarks(cleared, Texts.WIDE), 40);
        CHECKS.same("ranges of PICTURES when it is full", Texts.freeMarks(cleared, Texts.PICTURE), 40);
    }

    private static void firstWins() {
        Refused refused = new Refused(CHECKS, PropertyTest::full);
        refused.badArgument("the 101st, first -1", x -> x.property(-1, 7, 0));
        refused.badArgument("the 101st, last too great", x -> x.property(7, GREATEST + 1, 0));
        refused.badArgument("the 101st, first above last", x -> x.property(8, 7, 0));
        refused.badArgument("the 101st, class 44", x -> x.property(7, 7, 44));
        refused.badArgument("the 101st, class -1", x -> x.property(7, 7, -1));
    }
}
