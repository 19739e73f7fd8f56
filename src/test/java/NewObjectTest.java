/** Promise 1: a new object. */
public final class NewObjectTest {
    private static final int NONE = BreakPlaces.NONE;

    public static void main(String[] args) {
        Checks checks = new Checks();
        checkNoText(checks, new BreakPlaces());
        checkAllAreXX(checks, new BreakPlaces());
        checkNoMarks(checks);
        checks.same("loose of a new object", new BreakPlaces().loose(true), false);
        checkOwnState(checks);
        checks.same("NONE", BreakPlaces.NONE, -1);
        checks.same("FORBIDDEN", BreakPlaces.FORBIDDEN, 0);
        checks.same("MAY", BreakPlaces.MAY, 1);
        checks.same("MUST", BreakPlaces.MUST, 2);
        checks.finish();
    }

    private static void checkNoText(Checks checks, BreakPlaces x) {
        checks.same("count(0) of a new object", x.count(0), 0);
        checks.same("count(1) of a new object", x.count(1), 0);
        checks.same("count(2) of a new object", x.count(2), 0);
        checks.same("rule(0) of a new object", x.rule(0), 20);
        checks.same("breaks(0) of a new object", x.breaks(0), BreakPlaces.FORBIDDEN);
        checks.same("next(0) of a new object", x.next(0), NONE);
        checks.same("fit(0, 1) of a new object", x.fit(0, 1), 0);
        checks.same("clear of a new object", x.clear(), 0);
        checks.badIndex("at(0) of a new object", () -> x.at(0));
        checks.badIndex("kind(0) of a new object", () -> x.kind(0));
        checks.badIndex("rule(1) of a new object", () -> x.rule(1));
    }

    private static void checkAllAreXX(Checks checks, BreakPlaces x) {
        x.add(0, 32, 10, 0x1F1E6, 1114111);
        for (int i = 0; i < 5; i++) {
            checks.same("kind of an untold character " + i, x.kind(i), Texts.classOf("AL"));
        }
        checks.sameText("rules of untold characters", Texts.rules(x), "20 280 280 280 280 30");
    }

    private static void checkNoMarks(Checks checks) {
        checks.same("OP is not WIDE at first", Texts.of("AL OP").rule(1), 300);
        checks.same("CP is not WIDE at first", Texts.of("CP AL").rule(1), 300);
        checks.same("AL is no PICTURE at first", Texts.of("AL EM").rule(1), 310);
        checks.same("CJ is NS at first", Texts.of("CJ").kind(0), Texts.classOf("NS"));
    }

    private static void checkOwnState(Checks checks) {
        BreakPlaces one = Texts.of("AL SP AL");
        one.loose(true);
        one.mark(0, 1114111, 0, true);
        checkNoText(checks, new BreakPlaces());
        checkNoMarks(checks);
        checks.same("count(0) of the older object", one.count(0), 3);
    }
}
