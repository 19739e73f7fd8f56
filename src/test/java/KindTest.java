/** Promise 9: kind. */
public final class KindTest {
    private static final int NONE = BreakPlaces.NONE;
    private static final Checks CHECKS = new Checks();

    public static void main(String[] args) {
        CHECKS.sentence("The class as which a character counts", KindTest::countsAsItself);
        CHECKS.sentence("AI 38, SG 39, XX 40, SA 41 count as AL", KindTest::countsAsAl);
        CHECKS.sentence("SM 42 as CM", KindTest::countsAsCm);
        CHECKS.sentence("CJ 43 as NS, or, when the text is LOOSE, as ID", KindTest::countsAsNsOrId);
        CHECKS.sentence("(10 apart)", KindTest::rule10Apart);
        CHECKS.sentence("IndexOutOfBounds: there is no such position", KindTest::noSuchPosition);
        CHECKS.finish();
    }

    private static void countsAsItself() {
        BreakPlaces x = Texts.of(String.join(" ", Texts.NAMES));
        for (int round = 0; round < 2; round++) {
            for (int k = 0; k < 38; k++) {
                CHECKS.same("kind of " + Texts.NAMES.get(k) + " " + round, x.kind(k), k);
            }
            // LOOSE is nothing to these.
            x.loose(true);
        }
    }

    private static void countsAsAl() {
        for (String name : new String[] {"AI", "SG", "XX", "SA"}) {
            BreakPlaces x = Texts.of("HL " + name + " NU");
            CHECKS.same("kind of " + name, x.kind(1), Texts.classOf("AL"));
            CHECKS.sameText("rules of HL " + name + " NU", Texts.rules(x), "20 280 230 30");
            x.loose(true);
            CHECKS.same("kind of " + name + ", LOOSE", x.kind(1), Texts.classOf("AL"));
        }
    }

    private static void countsAsCm() {
        BreakPlaces x = Texts.of("ID SM ID SP SM NU");
        CHECKS.same("kind of SM", x.kind(1), Texts.classOf("CM"));
        CHECKS.same("kind of SM behind SP", x.kind(4), Texts.classOf("CM"));
        CHECKS.sameText("rules", Texts.rules(x), "20 90 310 70 180 230 30");
        x.loose(true);
        CHECKS.same("kind of SM, LOOSE", x.kind(1), Texts.classOf("CM"));
    }

    private static void countsAsNsOrId() {
        BreakPlaces x = Texts.of("ID CJ PO");
        CHECKS.same("kind of CJ", x.kind(1), Texts.classOf("NS"));
        CHECKS.sameText("rules", Texts.rules(x), "20 210 310 30");
        x.loose(true);
        CHECKS.same("kind of CJ, LOOSE", x.kind(1), Texts.classOf("ID"));
        CHECKS.sameText("rules, LOOSE", Texts.rules(x), "20 310 231 30");
        Texts.append(x, "NS");
        CHECKS.same("kind of NS, LOOSE", x.kind(3), Texts.classOf("NS"));
        x.loose(false);
        CHECKS.same("kind of CJ, not LOOSE again", x.kind(1), Texts.classOf("NS"));
    }

    private static void rule10Apart() {
        BreakPlaces x = Texts.of("CM SP CM AL CM SP ZWJ SM LF ZWJ");
        String[] due = {"CM", "SP", "CM", "AL", "CM", "SP", "ZWJ", "CM", "LF", "ZWJ"};
        for (int i = 0; i < due.length; i++) {
            CHECKS.same("kind at " + i, x.kind(i), Texts.classOf(due[i]));
        }
    }

    private static void noSuchPosition() {
        Refused three = new Refused(CHECKS, () -> Texts.of("AL AL AL"));
        for (int wrong : new int[] {-1, 3, 4, 1999, 2000, Integer.MIN_VALUE, Integer.MAX_VALUE}) {
            three.badIndex("kind(" + wrong + ")", x -> x.kind(wrong));
        }
        CHECKS.badIndex("kind(0) of no text", () -> new BreakPlaces().kind(0));
        BreakPlaces full = Texts.filled(3, 2000);
        CHECKS.same("kind(1999) of 2000", full.kind(1999), Texts.classOf("AL"));
        CHECKS.badIndex("kind(2000) of 2000", () -> full.kind(2000));
        BreakPlaces x = Texts.of("AL AL AL");
        x.replace(2, 3, NONE, NONE, NONE);
        CHECKS.badIndex("kind(2) when it is gone", () -> x.kind(2));
        CHECKS.same("kind(1) is there", x.kind(1), Texts.classOf("AL"));
        x.clear();
        CHECKS.badIndex("kind(0) of a text that is gone", () -> x.kind(0));
    }
}
