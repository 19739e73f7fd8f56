/** Promise 1: a new object. */
public final class NewObjectTest {
    private static final int NONE = BreakPlaces.NONE;
    private static final Checks CHECKS = new Checks();

    public static void main(String[] args) {
        CHECKS.sentence("No text", NewObjectTest::noText);
        CHECKS.sentence("all characters are XX", NewObjectTest::allAreXX);
        CHECKS.sentence("none WIDE", NewObjectTest::noneWide);
        CHECKS.sentence("none a PICTURE", NewObjectTest::noPicture);
        CHECKS.sentence("not LOOSE", NewObjectTest::notLoose);
        CHECKS.sentence("A new object, beside an older one", NewObjectTest::besideAnOlderOne);
        CHECKS.finish();
    }

    private static void noText() {
        BreakPlaces x = new BreakPlaces();
        CHECKS.same("count(0)", x.count(0), 0);
        CHECKS.same("count(1)", x.count(1), 0);
        CHECKS.same("count(2)", x.count(2), 0);
        CHECKS.same("rule(0)", x.rule(0), 20);
        CHECKS.same("breaks(0)", x.breaks(0), BreakPlaces.FORBIDDEN);
        CHECKS.same("next(0)", x.next(0), NONE);
        CHECKS.same("fit(0, 1)", x.fit(0, 1), 0);
        CHECKS.badIndex("at(0)", () -> x.at(0));
        CHECKS.badIndex("kind(0)", () -> x.kind(0));
        CHECKS.badIndex("rule(1)", () -> x.rule(1));
        CHECKS.same("replace(0, 0, ..) with none", x.replace(0, 0, NONE, NONE, NONE), 0);
        CHECKS.same("add of none", x.add(NONE, NONE, NONE, NONE, NONE), 0);
        CHECKS.same("clear", x.clear(), 0);
        CHECKS.same("ranges of classes to be told", Texts.freeRanges(x), 100);
        CHECKS.same("WIDE ranges to be told", Texts.freeMarks(x, Texts.WIDE), 40);
        CHECKS.same("ranges of PICTURES to be told", Texts.freeMarks(x, Texts.PICTURE), 40);
    }

    private static void allAreXX() {
        BreakPlaces x = new BreakPlaces();
        x.add(0, 32, 10, 0x1F1E6, Texts.GREATEST);
        for (int i = 0; i < 5; i++) {
            CHECKS.same("kind of an untold character " + x.at(i), x.kind(i), Texts.classOf("AL"));
        }
        CHECKS.sameText("rules of untold characters", Texts.rules(x), "20 280 280 280 280 30");
    }

    private static void noneWide() {
        CHECKS.same("OP behind AL", Texts.of("AL OP").rule(1), 300);
        CHECKS.same("AL behind CP", Texts.of("CP AL").rule(1), 300);
        for (int c : new int[] {0, Texts.GREATEST}) {
            BreakPlaces x = new BreakPlaces();
            x.property(c, c, Texts.classOf("OP"));
            x.add(65, c, NONE, NONE, NONE);
            CHECKS.same("OP " + c + " behind AL", x.rule(1), 300);
        }
    }

    private static void noPicture() {
        CHECKS.same("EM behind AL", Texts.of("AL EM").rule(1), 310);
        CHECKS.same("EM behind EM", Texts.of("EM EM").rule(1), 310);
        for (int c : new int[] {0, Texts.GREATEST}) {
            BreakPlaces x = new BreakPlaces();
            x.property(66, 66, Texts.classOf("EM"));
            x.add(c, 66, NONE, NONE, NONE);
            CHECKS.same("EM behind " + c, x.rule(1), 310);
        }
    }

    private static void notLoose() {
        CHECKS.same("kind of CJ", Texts.of("CJ").kind(0), Texts.classOf("NS"));
        CHECKS.same("loose(true)", new BreakPlaces().loose(true), false);
        CHECKS.same("loose(false)", new BreakPlaces().loose(false), false);
    }

    private static void besideAnOlderOne() {
        BreakPlaces older = Texts.of("AL SP AL");
        older.loose(true);
        older.mark(0, Texts.GREATEST, Texts.WIDE, true);
        older.mark(0, Texts.GREATEST, Texts.PICTURE, true);
        older.rule(2);
        noText();
        allAreXX();
        noneWide();
        noPicture();
        notLoose();
        CHECKS.sameText("rules of the older object", Texts.rules(older), "20 70 180 30");
        CHECKS.same("loose of the older object", older.loose(false), true);
    }
}
