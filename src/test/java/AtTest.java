/** Promise 8: at. */
public final class AtTest {
    private static final int NONE = BreakPlaces.NONE;
    private static final Checks CHECKS = new Checks();

    public static void main(String[] args) {
        CHECKS.sentence("A character of the text.", AtTest::character);
        CHECKS.sentence("IndexOutOfBounds: there is no such position", AtTest::noSuchPosition);
        CHECKS.finish();
    }

    private static void character() {
        BreakPlaces x = new BreakPlaces();
        x.add(0, Texts.GREATEST, 65, 0, NONE);
        CHECKS.same("the first", x.at(0), 0);
        CHECKS.same("the second", x.at(1), Texts.GREATEST);
        CHECKS.same("the third", x.at(2), 65);
        CHECKS.same("the last", x.at(3), 0);
        x.property(65, 65, 0);
        CHECKS.same("the third with a class told", x.at(2), 65);
        x.replace(1, 3, 7, NONE, NONE);
        CHECKS.same("the second when another is there", x.at(1), 7);
        CHECKS.same("the last has moved", x.at(2), 0);
        BreakPlaces full = Texts.filled(3, 2000);
        full.replace(1999, 2000, 4, NONE, NONE);
        CHECKS.same("the last but one of 2000", full.at(1998), 3);
        CHECKS.same("the last of 2000", full.at(1999), 4);
    }

    private static void noSuchPosition() {
        Refused three = new Refused(CHECKS, () -> Texts.of("AL AL AL"));
        for (int wrong : new int[] {-1, 3, 4, 1999, 2000, Integer.MIN_VALUE, Integer.MAX_VALUE}) {
            three.badIndex("at(" + wrong + ")", x -> x.at(wrong));
        }
        CHECKS.badIndex("at(0) of no text", () -> new BreakPlaces().at(0));
        CHECKS.badIndex("at(2000) of 2000", () -> Texts.filled(3, 2000).at(2000));
        BreakPlaces x = Texts.of("AL AL AL");
        Texts.cut(x, 2, 3);
        CHECKS.badIndex("at(2) when it is gone", () -> x.at(2));
        CHECKS.same("at(1) is there", x.at(1), Texts.character("AL"));
        x.clear();
        CHECKS.badIndex("at(0) of a text that is gone", () -> x.at(0));
    }
}
