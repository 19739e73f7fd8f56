/** Promises 8 and 9: at, kind. */
public final class AtAndKindTest {
    private static final int NONE = BreakPlaces.NONE;

    public static void main(String[] args) {
        Checks checks = new Checks();
        checkAt(checks);
        checkKind(checks);
        checkWrongPositions(checks);
        checks.finish();
    }

    private static void checkAt(Checks checks) {
        BreakPlaces x = new BreakPlaces();
        x.add(0, 1114111, 65, 0, NONE);
        checks.same("at(0)", x.at(0), 0);
        checks.same("at(1)", x.at(1), 1114111);
        checks.same("at(2)", x.at(2), 65);
        checks.same("at(3)", x.at(3), 0);
    }

    private static void checkKind(Checks checks) {
        BreakPlaces x = Texts.empty();
        Texts.append(x, String.join(" ", Texts.NAMES));
        for (int k = 0; k < 38; k++) {
            checks.same("kind of " + Texts.NAMES.get(k), x.kind(k), k);
        }
        String[] as = {"AL", "AL", "AL", "AL", "CM", "NS"};
        for (int k = 38; k <= 43; k++) {
            checks.same("kind of " + Texts.NAMES.get(k), x.kind(k), Texts.classOf(as[k - 38]));
        }
        x.loose(true);
        checks.same("kind of a LOOSE CJ", x.kind(43), Texts.classOf("ID"));
        checks.same("kind of NS, LOOSE", x.kind(Texts.classOf("NS")), Texts.classOf("NS"));

        BreakPlaces joined = Texts.of("CM SP CM AL CM SP ZWJ SM");
        int[] due = {8, 4, 8, 27, 8, 4, 7, 8};
        for (int i = 0; i < due.length; i++) {
            checks.same("kind, 10 apart, at " + i, joined.kind(i), due[i]);
        }
    }

    private static void checkWrongPositions(Checks checks) {
        BreakPlaces x = Texts.of("AL AL AL");
        int[] wrong = {-1, 3, 4, 1999, 2000, Integer.MIN_VALUE, Integer.MAX_VALUE};
        for (int w : wrong) {
            checks.badIndex("at(" + w + ")", () -> x.at(w));
            checks.badIndex("kind(" + w + ")", () -> x.kind(w));
        }
        x.replace(2, 3, NONE, NONE, NONE);
        checks.badIndex("at(2) when it is gone", () -> x.at(2));
        checks.badIndex("kind(2) when it is gone", () -> x.kind(2));
        checks.same("at(1) is there", x.at(1), Texts.character("AL"));
    }
}
