import java.util.List;

/** Texts written as names of classes: character 1000 + k has class k in the objects made here. */
final class Texts {
    static final List<String> NAMES = List.of(
            "BK", "CR", "LF", "NL", "SP", "ZW", "WJ", "ZWJ", "CM", "GL", "B2", "BA", "BB", "HY", "CB",
            "CL", "CP", "EX", "IN", "NS", "OP", "QU", "IS", "NU", "PO", "PR", "SY", "AL", "HL", "ID",
            "EB", "EM", "H2", "H3", "JL", "JV", "JT", "RI", "AI", "SG", "XX", "SA", "SM", "CJ");
    static final int NONE = BreakPlaces.NONE;

    private Texts() {
    }

    static int classOf(String name) {
        int k = NAMES.indexOf(name);
        if (k < 0) {
            throw new AssertionError("no class " + name);
        }
        return k;
    }

    static int character(String name) {
        return 1000 + classOf(name);
    }

    static BreakPlaces empty() {
        BreakPlaces x = new BreakPlaces();
        for (int k = 0; k < NAMES.size(); k++) {
            x.property(1000 + k, 1000 + k, k);
        }
        return x;
    }

    static BreakPlaces of(String names) {
        BreakPlaces x = empty();
        append(x, names);
        return x;
    }

    /** Five characters a call, because an object is good for 512 calls only. */
    static void append(BreakPlaces x, String names) {
        String[] all = names.isBlank() ? new String[0] : names.trim().split(" +");
        for (int i = 0; i < all.length; i += 5) {
            x.add(nth(all, i), nth(all, i + 1), nth(all, i + 2), nth(all, i + 3), nth(all, i + 4));
        }
    }

    private static int nth(String[] names, int i) {
        return i < names.length ? character(names[i]) : NONE;
    }

    /** Five times the same character, as often as told. */
    static void fill(BreakPlaces x, int character, int times) {
        for (int i = 0; i < times; i++) {
            x.add(character, character, character, character, character);
        }
    }

    static String characters(BreakPlaces x) {
        StringBuilder all = new StringBuilder();
        for (int i = 0; i < x.count(0); i++) {
            all.append(i == 0 ? "" : " ").append(x.at(i));
        }
        return all.toString();
    }

    static String rules(BreakPlaces x) {
        StringBuilder all = new StringBuilder();
        for (int p = 0; p <= x.count(0); p++) {
            all.append(p == 0 ? "" : " ").append(x.rule(p));
        }
        return all.toString();
    }

    static String breaks(BreakPlaces x) {
        StringBuilder all = new StringBuilder();
        for (int p = 0; p <= x.count(0); p++) {
            all.append(x.breaks(p));
        }
        return all.toString();
    }
}
