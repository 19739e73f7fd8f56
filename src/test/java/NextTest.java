/** Promise 12: next. */
public final class NextTest {
    private static final int NONE = BreakPlaces.NONE;
    private static final Checks CHECKS = new Checks();

    public static void main(String[] args) {
        CHECKS.sentence("The least place behind one", NextTest::leastBehind);
        CHECKS.sentence("at which lines may or must be broken", NextTest::mayOrMust);
        CHECKS.sentence("NONE if there is none", NextTest::noneIfThereIsNone);
        CHECKS.sentence("next, kept up to date while the text is edited", NextTest::afterEdits);
        CHECKS.sentence("IndexOutOfBounds: there is no such place", NextTest::noSuchPlace);
        CHECKS.finish();
    }

    private static void due(BreakPlaces x, int... due) {
        for (int p = 0; p < due.length; p++) {
            CHECKS.same("next(" + p + ")", x.next(p), due[p]);
        }
    }

    private static void leastBehind() {
        due(Texts.of("AL SP AL AL CR LF ID ID AL"), 2, 2, 6, 6, 6, 6, 7, 8, 9, NONE);
        // Behind a place at which a line may be broken comes the next one, not itself.
        due(Texts.of("ID ID ID"), 1, 2, 3, NONE);
        due(Texts.of("LF LF LF"), 1, 2, 3, NONE);
        due(Texts.filled(3, 2000), 2000);
        CHECKS.same("next(1999) of 2000", Texts.filled(3, 2000).next(1999), 2000);
    }

    private static void mayOrMust() {
        due(Texts.of("AL SP AL"), 2, 2, 3, NONE);
        due(Texts.of("AL LF AL"), 2, 2, 3, NONE);
        due(Texts.of("AL AL AL"), 3, 3, 3, NONE);
        due(Texts.of("CR LF AL"), 2, 2, 3, NONE);
        due(Texts.of("AL BK SP ZW CM AL"), 2, 2, 4, 4, 6, 6, NONE);
    }

    private static void noneIfThereIsNone() {
        CHECKS.same("next(0) of no text", new BreakPlaces().next(0), NONE);
        CHECKS.same("next at the end of one", Texts.of("AL").next(1), NONE);
        CHECKS.same("next at the end behind BK", Texts.of("AL BK").next(2), NONE);
        CHECKS.same("next(2000) of 2000", Texts.filled(3, 2000).next(2000), NONE);
        CHECKS.same("the end is there for the last but one", Texts.of("AL").next(0), 1);
        BreakPlaces x = Texts.of("AL SP AL");
        x.clear();
        CHECKS.same("next(0) of a text that is gone", x.next(0), NONE);
    }

    private static void afterEdits() {
        BreakPlaces x = Texts.of("AL SP AL AL CR LF ID ID AL");
        CHECKS.same("next(0)", x.next(0), 2);
        Texts.cut(x, 1, 2);
        CHECKS.same("next(0) without the SP", x.next(0), 5);
        x.property(Texts.character("LF"), Texts.character("LF"), Texts.classOf("GL"));
        CHECKS.same("next(0) with GL behind CR", x.next(0), 4);
        Texts.insert(x, 1, "ID");
        CHECKS.same("next(0) with an ID", x.next(0), 1);
        CHECKS.same("next(1) with an ID", x.next(1), 2);
    }

    private static void noSuchPlace() {
        Refused refused = new Refused(CHECKS, () -> Texts.of("AL SP AL"));
        for (int wrong : new int[] {-1, 4, 5, 2000, 2001, Integer.MIN_VALUE, Integer.MAX_VALUE}) {
            refused.badIndex("next(" + wrong + ")", x -> x.next(wrong));
        }
        BreakPlaces x = Texts.of("AL SP AL");
        Texts.cut(x, 2, 3);
        CHECKS.badIndex("next at a place that is gone", () -> x.next(3));
        CHECKS.badIndex("next(1) of no text", () -> new BreakPlaces().next(1));
        CHECKS.badIndex("next(-1) of no text", () -> new BreakPlaces().next(-1));
        CHECKS.badIndex("next(2001) of 2000", () -> Texts.filled(3, 2000).next(2001));
    }
}
