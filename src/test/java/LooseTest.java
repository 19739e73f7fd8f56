/** Promise 4: loose. */
public final class LooseTest {
    public static void main(String[] args) {
        Checks checks = new Checks();
        BreakPlaces x = Texts.of("ID CJ ID");
        checks.same("kind when not LOOSE", x.kind(1), Texts.classOf("NS"));
        checks.sameText("rules when not LOOSE", Texts.rules(x), "20 210 310 30");
        checks.same("loose(false), not LOOSE before", x.loose(false), false);
        checks.same("loose(true), not LOOSE before", x.loose(true), false);
        checks.same("kind when LOOSE", x.kind(1), Texts.classOf("ID"));
        checks.sameText("rules when LOOSE", Texts.rules(x), "20 310 310 30");
        checks.same("loose(true), LOOSE before", x.loose(true), true);
        checks.same("clear", x.clear(), 3);
        Texts.append(x, "CL CJ NS");
        checks.sameText("LOOSE outlasts the text", Texts.rules(x), "20 310 210 30");
        checks.same("loose(false), LOOSE before", x.loose(false), true);
        checks.sameText("rules when not LOOSE again", Texts.rules(x), "20 160 210 30");
        checks.same("loose(false) again", x.loose(false), false);
        checks.finish();
    }
}
