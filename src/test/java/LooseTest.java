/** Promise 4: loose. */
public final class LooseTest {
    private static final Checks CHECKS = new Checks();

    public static void main(String[] args) {
        CHECKS.sentence("The text is LOOSE, or it is not", LooseTest::isOrIsNot);
        CHECKS.sentence("whether it was", LooseTest::whetherItWas);
        CHECKS.sentence("LOOSE outlasts the text", LooseTest::outlastsTheText);
        CHECKS.finish();
    }

    private static void isOrIsNot() {
        BreakPlaces x = Texts.of("ID CJ ID");
        CHECKS.same("kind when not LOOSE", x.kind(1), Texts.classOf("NS"));
        CHECKS.sameText("rules when not LOOSE", Texts.rules(x), "20 210 310 30");
        x.loose(true);
        CHECKS.same("kind when LOOSE", x.kind(1), Texts.classOf("ID"));
        CHECKS.sameText("rules when LOOSE", Texts.rules(x), "20 310 310 30");
        CHECKS.same("MAY when LOOSE", x.count(1), 2);
        x.loose(true);
        CHECKS.sameText("rules when LOOSE is told again", Texts.rules(x), "20 310 310 30");
        x.loose(false);
        CHECKS.same("kind when not LOOSE again", x.kind(1), Texts.classOf("NS"));
        CHECKS.sameText("rules when not LOOSE again", Texts.rules(x), "20 210 310 30");
        CHECKS.same("MAY when not LOOSE again", x.count(1), 1);
    }

    private static void whetherItWas() {
        BreakPlaces x = new BreakPlaces();
        CHECKS.same("loose(false), not LOOSE before", x.loose(false), false);
        CHECKS.same("loose(true), not LOOSE before", x.loose(true), false);
        CHECKS.same("loose(true), LOOSE before", x.loose(true), true);
        CHECKS.same("loose(true), LOOSE before, again", x.loose(true), true);
        CHECKS.same("loose(false), LOOSE before", x.loose(false), true);
        CHECKS.same("loose(false), not LOOSE again", x.loose(false), false);
        CHECKS.same("loose(true), not LOOSE again", x.loose(true), false);
    }

    private static void outlastsTheText() {
        BreakPlaces x = Texts.of("ID CJ ID");
        x.loose(true);
        CHECKS.same("clear", x.clear(), 3);
        Texts.append(x, "CL CJ NS");
        CHECKS.sameText("rules of another text", Texts.rules(x), "20 310 210 30");
        Texts.cut(x, 0, 3);
        Texts.append(x, "CJ");
        CHECKS.same("kind in a third text", x.kind(0), Texts.classOf("ID"));
        CHECKS.same("loose(false)", x.loose(false), true);
        CHECKS.same("kind when not LOOSE", x.kind(0), Texts.classOf("NS"));
    }
}
