/**
 * Where lines of a text may be broken, and where they must be.
 *
 * The rule of a place depends on the characters up to the one behind the place, and on none after
 * it. So the rules are found from the front, one place after the other, only as far as a call asks,
 * and are kept until a change at or before them.
 */
public final class BreakPlaces {
    public static final int NONE = -1;
    public static final int FORBIDDEN = 0;
    public static final int MAY = 1;
    public static final int MUST = 2;

    private static final int MOST_CHARACTERS = 2000;
    private static final int GREATEST_CHARACTER = 1114111;
    private static final int GREATEST_CLASS = 43;
    private static final int MOST_CLASS_RANGES = 100;
    private static final int MOST_MARK_RANGES = 40;
    private static final int MOST_GIVEN = 5;

    private static final int MARK_WIDE = 0;
    private static final int MARK_PICTURE = 1;

    private static final int BK = 0;
    private static final int CR = 1;
    private static final int LF = 2;
    private static final int NL = 3;
    private static final int SP = 4;
    private static final int ZW = 5;
    private static final int WJ = 6;
    private static final int ZWJ = 7;
    private static final int CM = 8;
    private static final int GL = 9;
    private static final int B2 = 10;
    private static final int BA = 11;
    private static final int BB = 12;
    private static final int HY = 13;
    private static final int CB = 14;
    private static final int CL = 15;
    private static final int CP = 16;
    private static final int EX = 17;
    private static final int IN = 18;
    private static final int NS = 19;
    private static final int OP = 20;
    private static final int QU = 21;
    private static final int IS = 22;
    private static final int NU = 23;
    private static final int PO = 24;
    private static final int PR = 25;
    private static final int SY = 26;
    private static final int AL = 27;
    private static final int HL = 28;
    private static final int ID = 29;
    private static final int EB = 30;
    private static final int EM = 31;
    private static final int H2 = 32;
    private static final int H3 = 33;
    private static final int JL = 34;
    private static final int JV = 35;
    private static final int JT = 36;
    private static final int RI = 37;
    private static final int AI = 38;
    private static final int SG = 39;
    private static final int XX = 40;
    private static final int SA = 41;
    private static final int SM = 42;
    private static final int CJ = 43;

    // Sets of classes: bit k stands for class k.
    private static final long LINE_ENDS = 1L << BK | 1L << CR | 1L << LF | 1L << NL;
    private static final long BLANKS = LINE_ENDS | 1L << SP;
    private static final long NO_BASES = BLANKS | 1L << ZW;
    private static final long JOINED = 1L << CM | 1L << ZWJ;
    private static final long SPACES = 1L << SP | 1L << ZW;
    private static final long HYPHENS = 1L << BA | 1L << HY;
    private static final long BRACKETS_CLOSING = 1L << CL | 1L << CP;
    private static final long NEVER_FIRST = BRACKETS_CLOSING | 1L << EX | 1L << IS | 1L << SY;
    private static final long LETTERS = 1L << AL | 1L << HL;
    private static final long LETTERS_AND_DIGITS = LETTERS | 1L << NU;
    private static final long IDEOGRAPHS = 1L << ID | 1L << EB | 1L << EM;
    private static final long UNITS = 1L << PO | 1L << PR;
    private static final long BEFORE_UNITS = BRACKETS_CLOSING | 1L << NU;
    private static final long BEFORE_DIGITS = 1L << HY | 1L << IS | 1L << NU | 1L << SY;
    private static final long SYLLABLES = 1L << JL | 1L << JV | 1L << JT | 1L << H2 | 1L << H3;

    private static final int NO_RULE = 0;

    private final int[] text = new int[MOST_CHARACTERS];
    private final int[] classes = new int[MOST_CHARACTERS];
    private final int[] rules = new int[MOST_CHARACTERS];
    private final int[] given = new int[MOST_GIVEN];
    private final Ranges classRanges = new Ranges(MOST_CLASS_RANGES);
    private final Ranges wide = new Ranges(MOST_MARK_RANGES);
    private final Ranges pictures = new Ranges(MOST_MARK_RANGES);
    private final Before before = new Before();
    private int length;
    private boolean isLoose;
    /** The rules of the places below this one are known, and "before" tells what stands before it. */
    private int known;

    public BreakPlaces() {
        length = 0;
        isLoose = false;
        known = 0;
    }

    public void property(int first, int last, int kind)
            throws IllegalArgumentException, IllegalStateException {
        if (!isRange(first, last) || kind < 0 || kind > GREATEST_CLASS) {
            throw new IllegalArgumentException("no range of characters, or no class");
        }
        if (classRanges.isFull()) {
            throw new IllegalStateException("there are 100 ranges of classes");
        }
        classRanges.tell(first, last, kind);
        for (int i = 0; i < length; i++) {
            if (first <= text[i] && text[i] <= last) {
                classes[i] = kind;
            }
        }
        forgetRules();
    }

    public void mark(int first, int last, int what, boolean are)
            throws IllegalArgumentException, IllegalStateException {
        if (!isRange(first, last) || what != MARK_WIDE && what != MARK_PICTURE) {
            throw new IllegalArgumentException("no range of characters, or no such mark");
        }
        Ranges marks = what == MARK_WIDE ? wide : pictures;
        if (marks.isFull()) {
            throw new IllegalStateException("there are 40 ranges of that mark");
        }
        marks.tell(first, last, are ? 1 : 0);
        forgetRules();
    }

    public boolean loose(boolean is) {
        boolean was = isLoose;
        isLoose = is;
        if (was != is) {
            forgetRules();
        }
        return was;
    }

    public int add(int a, int b, int c, int d, int e)
            throws IllegalArgumentException, IllegalStateException {
        int many = take(a, b, c, d, e);
        if (!areCharacters(many)) {
            throw new IllegalArgumentException("no character");
        }
        if (length + many > MOST_CHARACTERS) {
            throw new IllegalStateException("more than 2000 characters");
        }
        putGiven(length, length, many);
        return length;
    }

    public int replace(int from, int to, int a, int b, int c)
            throws IndexOutOfBoundsException, IllegalArgumentException, IllegalStateException {
        if (from > to || !isPlace(from) || !isPlace(to)) {
            throw new IndexOutOfBoundsException("no such places");
        }
        int many = take(a, b, c, NONE, NONE);
        if (!areCharacters(many)) {
            throw new IllegalArgumentException("no character");
        }
        if (length - (to - from) + many > MOST_CHARACTERS) {
            throw new IllegalStateException("more than 2000 characters");
        }
        putGiven(from, to, many);
        return length;
    }

    public int clear() {
        int had = length;
        length = 0;
        forgetRules();
        return had;
    }

    public int at(int position) throws IndexOutOfBoundsException {
        if (!isPosition(position)) {
            throw new IndexOutOfBoundsException("no such position");
        }
        return text[position];
    }

    public int kind(int position) throws IndexOutOfBoundsException {
        if (!isPosition(position)) {
            throw new IndexOutOfBoundsException("no such position");
        }
        return kindAt(position);
    }

    public int breaks(int place) throws IndexOutOfBoundsException {
        if (!isPlace(place)) {
            throw new IndexOutOfBoundsException("no such place");
        }
        return breaksAt(place);
    }

    public int rule(int place) throws IndexOutOfBoundsException {
        if (!isPlace(place)) {
            throw new IndexOutOfBoundsException("no such place");
        }
        return ruleAt(place);
    }

    public int next(int place) throws IndexOutOfBoundsException {
        if (!isPlace(place)) {
            throw new IndexOutOfBoundsException("no such place");
        }
        for (int q = place + 1; q <= length; q++) {
            if (breaksAt(q) != FORBIDDEN) {
                return q;
            }
        }
        return NONE;
    }

    public int fit(int place, int room) throws IndexOutOfBoundsException, IllegalArgumentException {
        if (!isPlace(place)) {
            throw new IndexOutOfBoundsException("no such place");
        }
        if (room < 1 || room > MOST_CHARACTERS) {
            throw new IllegalArgumentException("room is not 1 .. 2000");
        }
        int fitting = place == length ? 0 : room;
        int inked = place;
        for (int q = place + 1; q <= length; q++) {
            if (!isIn(kindAt(q - 1), BLANKS)) {
                inked = q;
            }
            if (inked - place > room) {
                break;
            }
            int how = breaksAt(q);
            if (how != FORBIDDEN) {
                fitting = q - place;
            }
            if (how == MUST) {
                break;
            }
        }
        return fitting;
    }

    public int count(int what) {
        if (what == 0) {
            return length;
        }
        // The two other numbers are those that the places themselves answer.
        if (what != MAY && what != MUST) {
            return NONE;
        }
        int many = 0;
        for (int place = 0; place <= length; place++) {
            if (breaksAt(place) == what) {
                many++;
            }
        }
        return many;
    }

    private static boolean isCharacter(int number) {
        return number >= 0 && number <= GREATEST_CHARACTER;
    }

    private static boolean isRange(int first, int last) {
        return isCharacter(first) && isCharacter(last) && first <= last;
    }

    private boolean isPosition(int position) {
        return position >= 0 && position < length;
    }

    private boolean isPlace(int place) {
        return place >= 0 && place <= length;
    }

    /** Lays the characters of a call into the row "given"; answers how many stand before NONE. */
    private int take(int a, int b, int c, int d, int e) {
        given[0] = a;
        given[1] = b;
        given[2] = c;
        given[3] = d;
        given[4] = e;
        for (int i = 0; i < MOST_GIVEN; i++) {
            if (given[i] == NONE) {
                return i;
            }
        }
        return MOST_GIVEN;
    }

    private boolean areCharacters(int many) {
        for (int i = 0; i < many && i < MOST_GIVEN; i++) {
            if (!isCharacter(given[i])) {
                return false;
            }
        }
        return true;
    }

    private void putGiven(int from, int to, int many) {
        int tail = length - to;
        if (tail > 0) {
            System.arraycopy(text, to, text, from + many, tail);
            System.arraycopy(classes, to, classes, from + many, tail);
        }
        for (int i = 0; i < many && i < MOST_GIVEN; i++) {
            text[from + i] = given[i];
            classes[from + i] = classRanges.valueOf(given[i], XX);
        }
        length = from + many + tail;
        // Behind what is known nothing has to be found again: so a text that only grows is read once.
        if (from < known) {
            forgetRules();
        }
    }

    private void forgetRules() {
        known = 0;
        before.start();
    }

    private int kindAt(int position) {
        switch (classes[position]) {
            case AI:
            case SG:
            case XX:
            case SA:
                return AL;
            case SM:
                return CM;
            case CJ:
                return isLoose ? ID : NS;
            default:
                return classes[position];
        }
    }

    private int breaksAt(int place) {
        switch (ruleAt(place)) {
            case 30:
            case 40:
                return MUST;
            case 50:
                return isBetweenCrAndLf(place) ? FORBIDDEN : MUST;
            case 80:
            case 180:
            case 200:
            case 310:
                return MAY;
            default:
                return FORBIDDEN;
        }
    }

    private boolean isBetweenCrAndLf(int place) {
        return place > 0 && place < length && kindAt(place - 1) == CR && kindAt(place) == LF;
    }

    private int ruleAt(int place) {
        if (place <= 0) {
            return 20;
        }
        if (place >= length) {
            return 30;
        }
        for (int p = known; p <= place; p++) {
            int kind = kindAt(p);
            rules[p] = findRule(kind, text[p]);
            before.pass(kind, text[p]);
            known = p + 1;
        }
        return rules[place];
    }

    /** The rule, from 4 on, of the place between what "before" tells and a character. */
    private int findRule(int kind, int character) {
        int found = ruleOfSpaces(kind);
        if (found != NO_RULE) {
            return found;
        }
        int b = standsFor(kind);
        found = ruleOfGlue(before.a, b);
        if (found == NO_RULE) {
            found = ruleAcrossSpaces(before.solid, b);
        }
        if (found == NO_RULE) {
            found = ruleOfSigns(before.a, b);
        }
        if (found == NO_RULE) {
            found = ruleOfNumbers(before.a, b);
        }
        if (found == NO_RULE) {
            found = ruleOfWords(before.a, b);
        }
        if (found == NO_RULE) {
            found = ruleOfMarks(before.a, b, character);
        }
        return found == NO_RULE ? 310 : found;
    }

    /** Rules 4 to 9: those that look at the characters themselves, none of them left out. */
    private int ruleOfSpaces(int kind) {
        if (before.last == BK) {
            return 40;
        }
        if (isIn(before.last, LINE_ENDS)) {
            return 50;
        }
        if (isIn(kind, LINE_ENDS)) {
            return 60;
        }
        if (isIn(kind, SPACES)) {
            return 70;
        }
        if (before.solid == ZW) {
            return 80;
        }
        if (before.last == ZWJ) {
            return 81;
        }
        return before.leavesOut(kind) ? 90 : NO_RULE;
    }

    /** Rules 11 to 13. */
    private static int ruleOfGlue(int a, int b) {
        if (a == WJ || b == WJ) {
            return 110;
        }
        if (a == GL) {
            return 120;
        }
        if (b == GL && a != SP && !isIn(a, HYPHENS)) {
            return 121;
        }
        return isIn(b, NEVER_FIRST) ? 130 : NO_RULE;
    }

    /** Rules 14 to 17: a is the class before all SP. */
    private static int ruleAcrossSpaces(int a, int b) {
        if (a == OP) {
            return 140;
        }
        if (a == QU && b == OP) {
            return 150;
        }
        if (isIn(a, BRACKETS_CLOSING) && b == NS) {
            return 160;
        }
        return a == B2 && b == B2 ? 170 : NO_RULE;
    }

    /** Rules 18 to 22. */
    private int ruleOfSigns(int a, int b) {
        if (a == SP) {
            return 180;
        }
        if (a == QU || b == QU) {
            return 190;
        }
        if (a == CB || b == CB) {
            return 200;
        }
        if (isIn(b, HYPHENS) || b == NS || a == BB) {
            return 210;
        }
        if (isIn(a, HYPHENS) && before.beforeA == HL) {
            return 211;
        }
        if (a == SY && b == HL) {
            return 212;
        }
        return b == IN ? 220 : NO_RULE;
    }

    /** Rules 23 to 25. */
    private static int ruleOfNumbers(int a, int b) {
        if (isIn(a, LETTERS) && b == NU || a == NU && isIn(b, LETTERS)) {
            return 230;
        }
        if (a == PR && isIn(b, IDEOGRAPHS) || isIn(a, IDEOGRAPHS) && b == PO) {
            return 231;
        }
        if (isIn(a, UNITS) && isIn(b, LETTERS) || isIn(a, LETTERS) && isIn(b, UNITS)) {
            return 240;
        }
        if (isIn(a, BEFORE_UNITS) && isIn(b, UNITS)) {
            return 250;
        }
        if (isIn(a, UNITS) && (b == OP || b == NU)) {
            return 250;
        }
        return isIn(a, BEFORE_DIGITS) && b == NU ? 250 : NO_RULE;
    }

    /** Rules 26 to 29. */
    private static int ruleOfWords(int a, int b) {
        if (a == JL && (b == JL || b == JV || b == H2 || b == H3)) {
            return 260;
        }
        if ((a == JV || a == H2) && (b == JV || b == JT)) {
            return 260;
        }
        if ((a == JT || a == H3) && b == JT) {
            return 260;
        }
        if (isIn(a, SYLLABLES) && b == PO || a == PR && isIn(b, SYLLABLES)) {
            return 270;
        }
        if (isIn(a, LETTERS) && isIn(b, LETTERS)) {
            return 280;
        }
        return a == IS && isIn(b, LETTERS) ? 290 : NO_RULE;
    }

    /** Rules 30 to 30b: those that ask more of a character than its class. */
    private int ruleOfMarks(int a, int b, int character) {
        if (isIn(a, LETTERS_AND_DIGITS) && b == OP && !isMarked(wide, character)) {
            return 300;
        }
        if (a == CP && isIn(b, LETTERS_AND_DIGITS) && !isMarked(wide, before.characterA)) {
            return 300;
        }
        if (a == RI && b == RI && before.oddRow) {
            return 301;
        }
        if (b == EM && (a == EB || isMarked(pictures, before.characterA))) {
            return 302;
        }
        return NO_RULE;
    }

    private static boolean isMarked(Ranges marks, int character) {
        return marks.valueOf(character, 0) == 1;
    }

    private static boolean isIn(int kind, long set) {
        return kind >= 0 && (set >> kind & 1L) != 0;
    }

    /** Rule 10, for a character that is not left out. */
    private static int standsFor(int kind) {
        return isIn(kind, JOINED) ? AL : kind;
    }

    /** What the rules want to know of the characters before a place; a class is NONE if there is none. */
    private static final class Before {
        /** The class of the character directly before the place. */
        private int last;
        /** The class of the character before all that are left out, and that character. */
        private int a;
        private int characterA;
        /** The class before that one, what is left out apart. */
        private int beforeA;
        /** Like a, but before all SP, too. */
        private int solid;
        /** Whether the RI in a row before the place are odd. */
        private boolean oddRow;

        private Before() {
            start();
        }

        private void start() {
            last = NONE;
            a = NONE;
            characterA = NONE;
            beforeA = NONE;
            solid = NONE;
            oddRow = false;
        }

        private boolean leavesOut(int kind) {
            return isIn(kind, JOINED) && last != NONE && !isIn(last, NO_BASES);
        }

        private void pass(int kind, int character) {
            boolean isLeftOut = leavesOut(kind);
            last = kind;
            if (isLeftOut) {
                return;
            }
            beforeA = a;
            a = standsFor(kind);
            characterA = character;
            if (a != SP) {
                solid = a;
            }
            oddRow = a == RI && !oddRow;
        }
    }

    /** Ranges of characters, each with a value; where several hold a character, the last one counts. */
    private static final class Ranges {
        private final int[] firsts;
        private final int[] lasts;
        private final int[] values;
        private int many;

        private Ranges(int most) {
            int size = most < 0 ? 0 : most;
            firsts = new int[size];
            lasts = new int[size];
            values = new int[size];
            many = 0;
        }

        private boolean isFull() {
            return many >= firsts.length;
        }

        private void tell(int first, int last, int value) {
            if (isFull()) {
                return;
            }
            firsts[many] = first;
            lasts[many] = last;
            values[many] = value;
            many++;
        }

        private int valueOf(int character, int otherwise) {
            for (int i = many - 1; i >= 0; i--) {
                if (firsts[i] <= character && character <= lasts[i]) {
                    return values[i];
                }
            }
            return otherwise;
        }
    }
}
