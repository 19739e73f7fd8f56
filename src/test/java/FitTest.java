/** Promise 13: fit. */
public final class FitTest {
    public static void main(String[] args) {
        Checks checks = new Checks();
        checkWords(checks);
        checkBlanksAtTheEnd(checks);
        checkUpToTheFirstMust(checks);
        checkNoneFits(checks);
        checkWrong(checks);
        checkLong(checks);
        checks.finish();
    }

    private static void checkWords(Checks checks) {
        BreakPlaces y = Texts.of("AL AL AL SP AL AL SP AL AL AL AL AL");
        checks.sameText("breaks", Texts.breaks(y), "0000100100002");
        int[] due = {1, 2, 4, 4, 4, 7, 7, 7, 7, 7, 7, 12, 12};
        for (int room = 1; room <= due.length; room++) {
            checks.same("fit(0, " + room + ")", y.fit(0, room), due[room - 1]);
        }
        checks.same("fit(4, 1)", y.fit(4, 1), 1);
        checks.same("fit(4, 2)", y.fit(4, 2), 3);
        checks.same("fit(4, 7)", y.fit(4, 7), 3);
        checks.same("fit(4, 8)", y.fit(4, 8), 8);
        checks.same("fit(3, 1)", y.fit(3, 1), 1);
        checks.same("fit(3, 3)", y.fit(3, 3), 4);
        checks.same("fit(11, 1)", y.fit(11, 1), 1);
        checks.same("fit(11, 2000)", y.fit(11, 2000), 1);
    }

    private static void checkBlanksAtTheEnd(Checks checks) {
        for (String end : new String[] {"BK", "CR", "LF", "NL", "SP", "SP SP SP LF", "CR LF"}) {
            int many = end.split(" ").length;
            BreakPlaces x = Texts.of("AL AL " + end);
            checks.same("fit(0, 2) before " + end, x.fit(0, 2), 2 + many);
            checks.same("fit(0, 1) before " + end, x.fit(0, 1), 1);
            checks.same("fit(2, 1) before " + end, x.fit(2, 1), many);
        }
        checks.same("a ZW at the end counts", Texts.of("AL AL ZW AL").fit(0, 2), 2);
        checks.same("a ZW at the end, with room", Texts.of("AL AL ZW AL").fit(0, 3), 3);
        checks.same("a CM at the end counts", Texts.of("AL AL CM").fit(0, 2), 2);
        checks.same("blanks in the middle count", Texts.of("AL SP SP AL").fit(0, 3), 3);
        checks.same("blanks at the beginning count", Texts.of("SP SP AL").fit(0, 2), 2);
        checks.same("blanks at the beginning, with room", Texts.of("SP SP AL").fit(0, 3), 3);
        checks.same("SP, then CM that counts as AL", Texts.of("AL SP CM SP SP AL").fit(0, 3), 5);
    }

    private static void checkUpToTheFirstMust(Checks checks) {
        BreakPlaces x = Texts.of("AL SP AL LF LF AL CR LF AL");
        checks.sameText("breaks", Texts.breaks(x), "0010220022");
        checks.same("fit(0, 1)", x.fit(0, 1), 2);
        checks.same("fit(0, 2)", x.fit(0, 2), 2);
        checks.same("fit(0, 3)", x.fit(0, 3), 4);
        checks.same("fit(0, 2000)", x.fit(0, 2000), 4);
        checks.same("fit(3, 5)", x.fit(3, 5), 1);
        checks.same("fit(4, 5)", x.fit(4, 5), 1);
        checks.same("fit(5, 1)", x.fit(5, 1), 3);
        checks.same("fit(7, 9)", x.fit(7, 9), 1);
        checks.same("fit(8, 9)", x.fit(8, 9), 1);
        checks.same("fit at the end", x.fit(9, 1), 0);
        checks.same("fit at the end, much room", x.fit(9, 2000), 0);
    }

    private static void checkNoneFits(Checks checks) {
        BreakPlaces x = Texts.of("AL AL AL AL AL SP AL");
        for (int room = 1; room <= 4; room++) {
            checks.same("no place fits " + room, x.fit(0, room), room);
        }
        checks.same("one fits", x.fit(0, 5), 6);
        checks.same("no place fits from 2 on", x.fit(2, 2), 2);
    }

    private static void checkWrong(Checks checks) {
        BreakPlaces x = Texts.of("AL SP AL");
        int[] places = {-1, 4, 2000, 2001, Integer.MIN_VALUE, Integer.MAX_VALUE};
        for (int p : places) {
            checks.badIndex("fit(" + p + ", 5)", () -> x.fit(p, 5));
            checks.badIndex("fit(" + p + ", 0), the first wins", () -> x.fit(p, 0));
        }
        int[] rooms = {0, -1, 2001, Integer.MIN_VALUE, Integer.MAX_VALUE};
        for (int r : rooms) {
            checks.badArgument("fit(0, " + r + ")", () -> x.fit(0, r));
            checks.badArgument("fit(3, " + r + ") at the end", () -> x.fit(3, r));
        }
        checks.same("fit(0, 2000)", x.fit(0, 2000), 3);
        checks.same("fit(0, 1)", x.fit(0, 1), 2);
        checks.badArgument("fit(0, 0) of no text", () -> new BreakPlaces().fit(0, 0));
        checks.badIndex("fit(1, 1) of no text", () -> new BreakPlaces().fit(1, 1));
    }

    private static void checkLong(Checks checks) {
        BreakPlaces x = Texts.empty();
        Texts.fill(x, Texts.character("AL"), 400);
        checks.same("fit(0, 2000) of 2000 letters", x.fit(0, 2000), 2000);
        checks.same("fit(0, 1999) of 2000 letters", x.fit(0, 1999), 1999);
        checks.same("fit(1, 1998) of 2000 letters", x.fit(1, 1998), 1998);
        checks.same("fit(1, 1999) of 2000 letters", x.fit(1, 1999), 1999);
        x.property(0, 1114111, Texts.classOf("SP"));
        checks.same("fit(0, 1) of 2000 SP", x.fit(0, 1), 2000);
    }
}
