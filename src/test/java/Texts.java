import java.util.List;

/** Texts written as names of classes: character 1000 + k has class k in the objects made here. */
final class Texts {
    static final List<String> NAMES = List.of(
            "BK", "CR", "LF", "NL", "SP", "ZW", "WJ", "ZWJ", "CM", "GL", "B2", "BA", "BB", "HY", "CB",
            "CL", "CP", "EX", "IN", "NS", "OP", "QU", "IS", "NU", "PO", "PR", "SY", "AL", "HL", "ID",
            "EB", "EM", "H2", "H3", "JL", "JV", "JT", "RI", "AI", "SG", "XX", "SA", "SM", "CJ");
    static final int NONE = BreakPlaces.NONE;
    static final int GREATEST = 1114111;
    static final int MOST = 2000;
    static final int WIDE = 0;
    static final int PICTURE = 1;

    private Texts() {
    }

    static int classOf(String name) {
        int k = NAMES.indexOf(name);
        if (k < 0) {
            throw new AssertionError("no class " + name);
        }
        return k;
    }

    static int character(String name) {
        return 1000 + classOf(name);
    }

    static BreakPlaces empty() {
        BreakPlaces x = new BreakPlaces();
        for (int k = 0; k < NAMES.size(); k++) {
            x.property(1000 + k, 1000 + k, k);
        }
        return x;
    }

    static BreakPlaces of(String names) {
        BreakPlaces x = empty();
        append(x, names);
        return x;
    }

    /** Five characters a call, because an object is good for 512 calls only. */
    static void append(BreakPlaces x, String names) {
        String[] all = names.isBlank() ? new String[0] : names.trim().split(" +");
        for (int i = 0; i < all.length; i += 5) {
            x.add(nth(all, i), nth(all, i + 1), nth(all, i + 2), nth(all, i + 3), nth(all, i + 4));
        }
    }

    private static int nth(String[] names, int i) {
        return i < names.length ? character(names[i]) : NONE;
    }

    /** The same character, so many times. */
    static void fill(BreakPlaces x, int character, int many) {
        for (int i = 0; i < many; i += 5) {
            x.add(character, upTo(many - i, 2, character), upTo(many - i, 3, character),
                    upTo(many - i, 4, character), upTo(many - i, 5, character));
        }
    }

    private static int upTo(int many, int nth, int character) {
        return nth <= many ? character : NONE;
    }

    /** A text of so many characters, all the same, without a class told. */
    static BreakPlaces filled(int character, int many) {
        BreakPlaces x = new BreakPlaces();
        fill(x, character, many);
        return x;
    }

    /** Takes the characters of a range of positions out. */
    static void cut(BreakPlaces x, int from, int to) {
        x.replace(from, to, NONE, NONE, NONE);
    }

    static void insert(BreakPlaces x, int place, String name) {
        x.replace(place, place, character(name), NONE, NONE);
    }

    static void markAs(BreakPlaces x, String name, int what, boolean are) {
        x.mark(character(name), character(name), what, are);
    }

    static String characters(BreakPlaces x) {
        StringBuilder all = new StringBuilder();
        for (int i = 0; i < x.count(0); i++) {
            all.append(i == 0 ? "" : " ").append(x.at(i));
        }
        return all.toString();
    }

    static String rules(BreakPlaces x) {
        StringBuilder all = new StringBuilder();
        for (int p = 0; p <= x.count(0); p++) {
            all.append(p == 0 ? "" : " ").append(x.rule(p));
        }
        return all.toString();
    }

    static String breaks(BreakPlaces x) {
        StringBuilder all = new StringBuilder();
        for (int p = 0; p <= x.count(0); p++) {
            all.append(x.breaks(p));
        }
        return all.toString();
    }

    /**
     * All that can be seen of an object, LOOSE and the ranges still free included; of a long text some
     * places, for 512 calls must do. The object is used up by it.
     */
    static String state(BreakPlaces x) {
        StringBuilder all = new StringBuilder();
        int many = x.count(0);
        all.append(many).append(' ').append(x.count(1)).append(' ').append(x.count(2));
        int step = many / 10 + 1;
        for (int p = 0; p < many; p += step) {
            tellPlace(all, x, p);
        }
        if (many > 0) {
            // The first for itself: what has been kept of the rules must not hide what was told.
            x.replace(0, 1, x.at(0), NONE, NONE);
            all.append(" | last ").append(x.at(many - 1)).append(" anew");
        }
        for (int p = 0; p < many; p += step) {
            all.append(' ').append(x.rule(p));
        }
        all.append(" | loose ").append(x.loose(false));
        if (many < 10) {
            all.append(" free ").append(freeRanges(x)).append(' ').append(freeMarks(x, WIDE))
                    .append(' ').append(freeMarks(x, PICTURE));
        }
        return all.toString();
    }

    private static void tellPlace(StringBuilder all, BreakPlaces x, int p) {
        all.append(" | ").append(p).append(": ").append(x.at(p)).append(' ').append(x.kind(p));
        all.append(' ').append(x.rule(p)).append(' ').append(x.breaks(p)).append(' ').append(x.next(p));
        all.append(' ').append(x.fit(p, 2));
    }

    /** How many ranges of classes can still be told: tells them all. */
    static int freeRanges(BreakPlaces x) {
        int taken = 0;
        while (taken <= 100 && isTaken(() -> x.property(0, 0, 0))) {
            taken++;
        }
        return taken;
    }

    /** How many ranges of a mark can still be told: tells them all. */
    static int freeMarks(BreakPlaces x, int what) {
        int taken = 0;
        while (taken <= 40 && isTaken(() -> x.mark(0, 0, what, true))) {
            taken++;
        }
        return taken;
    }

    private static boolean isTaken(Runnable call) {
        try {
            call.run();
            return true;
        } catch (IllegalStateException full) {
            return false;
        }
    }
}
