/** Promise 13: fit. */
public final class FitTest {
    private static final Checks CHECKS = new Checks();

    public static void main(String[] args) {
        CHECKS.sentence("The line from a place p on: of the places behind p", FitTest::placesBehind);
        CHECKS.sentence("up to the first that MUST", FitTest::upToTheFirstMust);
        CHECKS.sentence("that MAY or MUST", FitTest::mayOrMust);
        CHECKS.sentence("the greatest one q with no more than room characters from p up to q", FitTest::greatest);
        CHECKS.sentence("not counting those at the end that count as SP, BK, CR, LF, NL", FitTest::blanksAtTheEnd);
        CHECKS.sentence("not counting those at the end: others count", FitTest::othersCount);
        CHECKS.sentence("q - p", FitTest::fromPOn);
        CHECKS.sentence("If there is none: room.", FitTest::noneFits);
        CHECKS.sentence("At the end of the text 0.", FitTest::atTheEnd);
        CHECKS.sentence("IndexOutOfBounds: there is no such place", FitTest::noSuchPlace);
        CHECKS.sentence("IllegalArgument: room is not 1 .. 2000", FitTest::wrongRoom);
        CHECKS.sentence("IndexOutOfBounds before IllegalArgument", FitTest::firstWins);
        CHECKS.finish();
    }

    /** What is due from a place on, with room 1, 2, 3 and so on. */
    private static void due(String names, int place, int... due) {
        BreakPlaces x = Texts.of(names);
        for (int room = 1; room <= due.length; room++) {
            CHECKS.same("fit(" + place + ", " + room + ") in " + names, x.fit(place, room), due[room - 1]);
        }
    }

    private static void placesBehind() {
        due("ID ID ID", 0, 1, 2, 3, 3);
        due("ID ID ID", 1, 1, 2, 2);
        due("ID ID ID", 2, 1, 1);
        due("AL SP AL SP", 2, 2, 2);
        // At place 2 a line may be broken, but it is not behind itself.
        due("AL SP AL AL AL", 2, 1, 2, 3, 3);
        due("LF AL AL", 1, 1, 2, 2);
    }

    private static void upToTheFirstMust() {
        due("AL SP AL LF LF AL CR LF AL", 0, 2, 2, 4, 4, 4, 4, 4, 4, 4, 4);
        due("AL SP AL LF LF AL CR LF AL", 3, 1, 1, 1);
        due("AL SP AL LF LF AL CR LF AL", 4, 1, 1, 1);
        due("AL SP AL LF LF AL CR LF AL", 5, 3, 3, 3);
        due("AL SP AL LF LF AL CR LF AL", 7, 1, 1, 1);
        due("AL SP AL LF LF AL CR LF AL", 8, 1, 1, 1);
        due("BK BK BK", 0, 1, 1, 1);
        due("CR LF ID", 0, 2, 2, 2);
        due("ID NL SP ID", 0, 2, 2, 2, 2);
        BreakPlaces x = Texts.of("ID BK ID ID");
        CHECKS.same("fit(0, 2000) before a MUST", x.fit(0, 2000), 2);
    }

    private static void mayOrMust() {
        due("AL AL AL SP AL AL SP AL AL AL AL AL", 0, 1, 2, 4, 4, 4, 7, 7, 7, 7, 7, 7, 12, 12);
        due("ID GL ID ID", 0, 1, 2, 3, 4, 4);
        due("ID ID GL ID ID", 0, 1, 1, 1, 4, 5, 5);
        due("AL CM AL CB AL", 0, 1, 2, 3, 4, 5, 5);
    }

    private static void greatest() {
        due("ID ID ID ID ID", 0, 1, 2, 3, 4, 5, 5, 5);
        due("ID AL AL ID AL AL", 0, 1, 1, 3, 4, 4, 6, 6);
        BreakPlaces x = Texts.filled(3, 2000);
        CHECKS.same("fit(0, 2000) of 2000 letters", x.fit(0, 2000), 2000);
        CHECKS.same("fit(1, 2000) of 2000 letters", x.fit(1, 2000), 1999);
        CHECKS.same("fit(1, 1999) of 2000 letters", x.fit(1, 1999), 1999);
        x.property(3, 3, Texts.classOf("ID"));
        CHECKS.same("fit(0, 1999) of 2000 ID", x.fit(0, 1999), 1999);
        CHECKS.same("fit(0, 2000) of 2000 ID", x.fit(0, 2000), 2000);
        CHECKS.same("fit(1000, 999) of 2000 ID", x.fit(1000, 999), 999);
        CHECKS.same("fit(1000, 1000) of 2000 ID", x.fit(1000, 1000), 1000);
        CHECKS.same("fit(1000, 1001) of 2000 ID", x.fit(1000, 1001), 1000);
    }

    private static void blanksAtTheEnd() {
        for (String end : new String[] {"BK", "CR", "LF", "NL", "SP", "SP SP SP LF", "CR LF", "SP CR LF"}) {
            int many = end.split(" ").length;
            BreakPlaces x = Texts.of("AL AL " + end);
            CHECKS.same("fit(0, 1) before " + end, x.fit(0, 1), 1);
            CHECKS.same("fit(0, 2) before " + end, x.fit(0, 2), 2 + many);
            CHECKS.same("fit(1, 1) before " + end, x.fit(1, 1), 1 + many);
            CHECKS.same("fit(2, 1) before " + end, x.fit(2, 1), many);
            BreakPlaces y = Texts.of("AL AL " + end + " AL");
            CHECKS.same("fit(0, 2) before " + end + " AL", y.fit(0, 2), 2 + many);
        }
        // Nothing but such characters: the first of them, and any number.
        due("SP SP SP ID", 0, 3, 3, 3, 4);
        due("SP LF ID", 0, 2, 2, 2);
        BreakPlaces x = new BreakPlaces();
        x.property(4, 4, Texts.classOf("SP"));
        x.add(65, 66, -1, -1, -1);
        Texts.fill(x, 4, 1998);
        CHECKS.same("fit(0, 2) before 1998 SP", x.fit(0, 2), 2000);
        CHECKS.same("fit(0, 1) before 1998 SP", x.fit(0, 1), 1);
        CHECKS.same("fit(5, 1) in SP", x.fit(5, 1), 1995);
        x.property(0, Texts.GREATEST, Texts.classOf("SP"));
        CHECKS.same("fit(0, 1) of 2000 SP", x.fit(0, 1), 2000);
    }

    private static void othersCount() {
        for (String end : new String[] {"ZW", "CM", "ZWJ", "GL", "WJ", "BA", "CL", "IN", "SM", "XX"}) {
            BreakPlaces x = Texts.of("AL AL " + end);
            CHECKS.same("fit(0, 2) before " + end, x.fit(0, 2), 2);
            CHECKS.same("fit(0, 3) before " + end, x.fit(0, 3), 3);
            BreakPlaces y = Texts.of("AL SP " + end + " SP LF");
            CHECKS.same("fit(0, 3) of AL SP " + end + " SP LF", y.fit(0, 3), 5);
        }
        due("AL AL ZW AL", 0, 1, 2, 3, 4);
        // In the middle and at the beginning they do count.
        due("AL SP SP AL", 0, 3, 3, 3, 4);
        due("SP SP AL AL", 0, 2, 2, 2, 4);
        due("AL SP CM SP SP AL", 0, 2, 2, 5, 5, 5, 6);
        due("SP GL SP", 0, 1, 3, 3);
    }

    private static void fromPOn() {
        String names = "AL AL AL SP AL AL SP AL AL AL AL AL";
        due(names, 3, 1, 1, 4, 4, 4, 4, 4, 4, 9, 9);
        due(names, 4, 1, 3, 3, 3, 3, 3, 3, 8, 8);
        due(names, 7, 1, 2, 3, 4, 5, 5);
        due(names, 11, 1, 1);
        CHECKS.same("fit(11, 2000)", Texts.of(names).fit(11, 2000), 1);
    }

    private static void noneFits() {
        BreakPlaces x = Texts.of("AL AL AL AL AL SP AL");
        for (int room = 1; room <= 4; room++) {
            CHECKS.same("no place fits " + room, x.fit(0, room), room);
        }
        CHECKS.same("one fits", x.fit(0, 5), 6);
        CHECKS.same("no place fits from 2 on", x.fit(2, 2), 2);
        CHECKS.same("one fits from 2 on", x.fit(2, 3), 4);
        due("AL GL SP AL", 0, 1, 3);
        BreakPlaces full = Texts.filled(3, 2000);
        CHECKS.same("fit(0, 1) of 2000 letters", full.fit(0, 1), 1);
        CHECKS.same("fit(0, 1999) of 2000 letters", full.fit(0, 1999), 1999);
        CHECKS.same("fit(1, 1998) of 2000 letters", full.fit(1, 1998), 1998);
    }

    private static void atTheEnd() {
        for (int room : new int[] {1, 2, 1999, 2000}) {
            CHECKS.same("fit(3, " + room + ") of three", Texts.of("AL SP AL").fit(3, room), 0);
            CHECKS.same("fit(2, " + room + ") behind BK", Texts.of("AL BK").fit(2, room), 0);
            CHECKS.same("fit(0, " + room + ") of no text", new BreakPlaces().fit(0, room), 0);
            CHECKS.same("fit(2000, " + room + ") of 2000", Texts.filled(3, 2000).fit(2000, room), 0);
            CHECKS.same("fit(1999, " + room + ") of 2000", Texts.filled(3, 2000).fit(1999, room), 1);
        }
    }

    private static void noSuchPlace() {
        Refused refused = new Refused(CHECKS, () -> Texts.of("AL SP AL"));
        for (int wrong : new int[] {-1, 4, 5, 2000, 2001, Integer.MIN_VALUE, Integer.MAX_VALUE}) {
            refused.badIndex("fit(" + wrong + ", 5)", x -> x.fit(wrong, 5));
        }
        CHECKS.badIndex("fit(1, 1) of no text", () -> new BreakPlaces().fit(1, 1));
        CHECKS.badIndex("fit(2001, 1) of 2000", () -> Texts.filled(3, 2000).fit(2001, 1));
        BreakPlaces x = Texts.of("AL SP AL");
        Texts.cut(x, 2, 3);
        CHECKS.badIndex("fit at a place that is gone", () -> x.fit(3, 1));
    }

    private static void wrongRoom() {
        Refused refused = new Refused(CHECKS, () -> Texts.of("AL SP AL"));
        for (int wrong : new int[] {0, -1, 2001, Integer.MIN_VALUE, Integer.MAX_VALUE}) {
            refused.badArgument("fit(0, " + wrong + ")", x -> x.fit(0, wrong));
            refused.badArgument("fit(3, " + wrong + ") at the end", x -> x.fit(3, wrong));
            CHECKS.badArgument("fit(0, " + wrong + ") of no text", () -> new BreakPlaces().fit(0, wrong));
        }
        CHECKS.same("fit(0, 1)", Texts.of("AL SP AL").fit(0, 1), 2);
        CHECKS.same("fit(0, 2000)", Texts.of("AL SP AL").fit(0, 2000), 3);
    }

    private static void firstWins() {
        Refused refused = new Refused(CHECKS, () -> Texts.of("AL SP AL"));
        for (int place : new int[] {-1, 4, Integer.MIN_VALUE, Integer.MAX_VALUE}) {
            for (int room : new int[] {0, -1, 2001}) {
                refused.badIndex("fit(" + place + ", " + room + ")", x -> x.fit(place, room));
            }
        }
    }
}
