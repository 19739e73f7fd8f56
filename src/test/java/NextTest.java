/** Promise 12: next. */
public final class NextTest {
    private static final int NONE = BreakPlaces.NONE;

    public static void main(String[] args) {
        Checks checks = new Checks();
        BreakPlaces x = Texts.of("AL SP AL AL CR LF ID ID AL");
        int[] due = {2, 2, 6, 6, 6, 6, 7, 8, 9, NONE};
        for (int p = 0; p < due.length; p++) {
            checks.same("next(" + p + ")", x.next(p), due[p]);
        }
        int[] wrong = {-1, 10, 2000, 2001, Integer.MIN_VALUE, Integer.MAX_VALUE};
        for (int w : wrong) {
            checks.badIndex("next(" + w + ")", () -> x.next(w));
        }
        x.replace(1, 2, NONE, NONE, NONE);
        checks.same("next(0) without the SP", x.next(0), 5);
        x.property(Texts.character("LF"), Texts.character("LF"), Texts.classOf("GL"));
        checks.same("next(0) with GL behind CR", x.next(0), 4);
        checks.same("clear", x.clear(), 8);
        checks.same("next(0) of no text", x.next(0), NONE);
        checks.badIndex("next(1) of no text", () -> x.next(1));
        Texts.append(x, "AL");
        checks.same("next(0) of one character", x.next(0), 1);
        checks.same("next(1) of one character", x.next(1), NONE);
        checkLong(checks);
        checks.finish();
    }

    private static void checkLong(Checks checks) {
        BreakPlaces x = Texts.empty();
        Texts.fill(x, Texts.character("AL"), 400);
        checks.same("next(0) of 2000 letters", x.next(0), 2000);
        checks.same("next(1999) of 2000 letters", x.next(1999), 2000);
        checks.same("next(2000) of 2000 letters", x.next(2000), NONE);
        checks.badIndex("next(2001) of 2000 letters", () -> x.next(2001));
    }
}
