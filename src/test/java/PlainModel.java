import java.util.ArrayList;
import java.util.HashMap;
import java.util.List;
import java.util.Map;
import java.util.regex.Pattern;

/**
 * The document once more, in a quite different form: the text as a line of class names, the rules as
 * patterns over what stands before a place and behind it, everything found anew for each answer.
 */
final class PlainModel {
    private static final int NONE = -1;
    private static final int GREATEST = 1114111;

    /** A rule: ten times its number, what it says, the pattern before the place, the one behind it. */
    private record Rule(int number, int says, Pattern before, Pattern behind) {
        static Rule of(String number, String says, String before, String behind) {
            return new Rule(Integer.parseInt(number), List.of("none", "MAY", "MUST").indexOf(says),
                    pattern("(?:" + before + ")$"), pattern("^(?:" + behind + ")"));
        }

        boolean holds(String left, String right) {
            return behind.matcher(right).find() && before.matcher(left).find();
        }
    }

    private record Range(int first, int last, int value) {
        boolean holds(int character) {
            return first <= character && character <= last;
        }
    }

    /** A character is written " NAME:wp", with - for w if it is not WIDE, and for p if no PICTURE. */
    private static Pattern pattern(String text) {
        return Pattern.compile(text
                .replaceAll("\\{(\\w+) narrow}", "(?: $1:-.)")
                .replace("{picture}", "(?: \\w+:.p)")
                .replaceAll("\\{(\\w+)}", "(?: $1:..)"));
    }

    private static List<Rule> rules(String... rows) {
        List<Rule> all = new ArrayList<>();
        for (String row : rows) {
            String[] cells = row.split("~", -1);
            all.add(Rule.of(cells[0].trim(), cells[1].trim(), cells[2].trim(), cells[3].trim()));
        }
        return all;
    }

    private static final List<Rule> EARLY = rules(
            "40 ~ MUST ~ {BK} ~ ",
            "50 ~ none ~ {CR} ~ {LF}",
            "50 ~ MUST ~ {CR}|{LF}|{NL} ~ ",
            "60 ~ none ~ ~ {BK}|{CR}|{LF}|{NL}",
            "70 ~ none ~ ~ {SP}|{ZW}",
            "80 ~ MAY  ~ {ZW}{SP}* ~ ",
            "81 ~ none ~ {ZWJ} ~ ",
            "90 ~ none ~ (?<!^| BK:..| CR:..| LF:..| NL:..| SP:..| ZW:..) ~ {CM}|{ZWJ}");

    private static final List<Rule> LATE = rules(
            "110 ~ none ~ {WJ} ~ ",
            "110 ~ none ~ ~ {WJ}",
            "120 ~ none ~ {GL} ~ ",
            "121 ~ none ~ (?<! SP:..| BA:..| HY:..) ~ {GL}",
            "130 ~ none ~ ~ {CL}|{CP}|{EX}|{IS}|{SY}",
            "140 ~ none ~ {OP}{SP}* ~ ",
            "150 ~ none ~ {QU}{SP}* ~ {OP}",
            "160 ~ none ~ {CL}{SP}*|{CP}{SP}* ~ {NS}",
            "170 ~ none ~ {B2}{SP}* ~ {B2}",
            "180 ~ MAY  ~ {SP} ~ ",
            "190 ~ none ~ {QU} ~ ",
            "190 ~ none ~ ~ {QU}",
            "200 ~ MAY  ~ {CB} ~ ",
            "200 ~ MAY  ~ ~ {CB}",
            "210 ~ none ~ ~ {BA}|{HY}|{NS}",
            "210 ~ none ~ {BB} ~ ",
            "211 ~ none ~ {HL}{HY}|{HL}{BA} ~ ",
            "212 ~ none ~ {SY} ~ {HL}",
            "220 ~ none ~ ~ {IN}",
            "230 ~ none ~ {AL}|{HL} ~ {NU}",
            "230 ~ none ~ {NU} ~ {AL}|{HL}",
            "231 ~ none ~ {PR} ~ {ID}|{EB}|{EM}",
            "231 ~ none ~ {ID}|{EB}|{EM} ~ {PO}",
            "240 ~ none ~ {PR}|{PO} ~ {AL}|{HL}",
            "240 ~ none ~ {AL}|{HL} ~ {PR}|{PO}",
            "250 ~ none ~ {CL}|{CP}|{NU} ~ {PO}|{PR}",
            "250 ~ none ~ {PO}|{PR} ~ {OP}|{NU}",
            "250 ~ none ~ {HY}|{IS}|{NU}|{SY} ~ {NU}",
            "260 ~ none ~ {JL} ~ {JL}|{JV}|{H2}|{H3}",
            "260 ~ none ~ {JV}|{H2} ~ {JV}|{JT}",
            "260 ~ none ~ {JT}|{H3} ~ {JT}",
            "270 ~ none ~ {JL}|{JV}|{JT}|{H2}|{H3} ~ {PO}",
            "270 ~ none ~ {PR} ~ {JL}|{JV}|{JT}|{H2}|{H3}",
            "280 ~ none ~ {AL}|{HL} ~ {AL}|{HL}",
            "290 ~ none ~ {IS} ~ {AL}|{HL}",
            "300 ~ none ~ {AL}|{HL}|{NU} ~ {OP narrow}",
            "300 ~ none ~ {CP narrow} ~ {AL}|{HL}|{NU}",
            "301 ~ none ~ (?<! RI:..){RI}(?:{RI}{RI})* ~ {RI}",
            "302 ~ none ~ {EB}|{picture} ~ {EM}",
            "310 ~ MAY  ~ ~ ");

    private static final Pattern LEFT_OUT =
            pattern("( (?!(?:BK|CR|LF|NL|SP|ZW):)\\w+:..)(?:{CM}|{ZWJ})+");
    private static final Pattern OTHER_CM = pattern(" (?:CM|ZWJ):(..)");

    private final List<Integer> text = new ArrayList<>();
    private final List<Range> classes = new ArrayList<>();
    private final List<List<Range>> marks = List.of(new ArrayList<>(), new ArrayList<>());
    private boolean loose = false;
    /** What has been found since the last change: the characters as written, and the verdicts. */
    private final List<String> words = new ArrayList<>();
    private final Map<Integer, int[]> verdicts = new HashMap<>();

    private static boolean isCharacter(int c) {
        return 0 <= c && c <= GREATEST;
    }

    private static int lastTold(List<Range> ranges, int character, int otherwise) {
        int value = otherwise;
        for (Range range : ranges) {
            if (range.holds(character)) {
                value = range.value();
            }
        }
        return value;
    }

    private String nameOf(int character) {
        String told = Texts.NAMES.get(lastTold(classes, character, Texts.classOf("XX")));
        return switch (told) {
            case "AI", "SG", "XX", "SA" -> "AL";
            case "SM" -> "CM";
            case "CJ" -> loose ? "ID" : "NS";
            default -> told;
        };
    }

    private void forget() {
        words.clear();
        verdicts.clear();
    }

    private String written(int from, int to) {
        if (words.isEmpty()) {
            for (int c : text) {
                words.add(" " + nameOf(c) + ":" + (lastTold(marks.get(0), c, 0) == 1 ? 'w' : '-')
                        + (lastTold(marks.get(1), c, 0) == 1 ? 'p' : '-'));
            }
        }
        return String.join("", words.subList(from, to));
    }

    /** The number of the rule, and what it says: two numbers. */
    private int[] verdict(int place) {
        return verdicts.computeIfAbsent(place, this::findVerdict);
    }

    private int[] findVerdict(int place) {
        if (place == 0) {
            return new int[] {20, 0};
        }
        if (place == text.size()) {
            return new int[] {30, 2};
        }
        String left = written(0, place);
        String right = written(place, place + 1);
        for (Rule rule : EARLY) {
            if (rule.holds(left, right)) {
                return new int[] {rule.number(), rule.says()};
            }
        }
        left = LEFT_OUT.matcher(left).replaceAll("$1");
        left = OTHER_CM.matcher(left).replaceAll(" AL:$1");
        right = OTHER_CM.matcher(right).replaceAll(" AL:$1");
        for (Rule rule : LATE) {
            if (rule.holds(left, right)) {
                return new int[] {rule.number(), rule.says()};
            }
        }
        throw new AssertionError("no rule");
    }

    void property(int first, int last, int kind) {
        if (!isCharacter(first) || !isCharacter(last) || first > last || kind < 0 || kind > 43) {
            throw new IllegalArgumentException();
        }
        if (classes.size() == 100) {
            throw new IllegalStateException();
        }
        classes.add(new Range(first, last, kind));
        forget();
    }

    void mark(int first, int last, int what, boolean are) {
        if (!isCharacter(first) || !isCharacter(last) || first > last || what < 0 || what > 1) {
            throw new IllegalArgumentException();
        }
        if (marks.get(what).size() == 40) {
            throw new IllegalStateException();
        }
        marks.get(what).add(new Range(first, last, are ? 1 : 0));
        forget();
    }

    boolean loose(boolean is) {
        boolean was = loose;
        loose = is;
        forget();
        return was;
    }

    int add(int... more) {
        return put(text.size(), text.size(), more);
    }

    int replace(int from, int to, int... more) {
        if (from > to || from < 0 || to > text.size()) {
            throw new IndexOutOfBoundsException();
        }
        return put(from, to, more);
    }

    private int put(int from, int to, int... more) {
        List<Integer> come = new ArrayList<>();
        for (int c : more) {
            if (c == NONE) {
                break;
            }
            if (!isCharacter(c)) {
                throw new IllegalArgumentException();
            }
            come.add(c);
        }
        if (text.size() - (to - from) + come.size() > 2000) {
            throw new IllegalStateException();
        }
        text.subList(from, to).clear();
        text.addAll(from, come);
        forget();
        return text.size();
    }

    int clear() {
        int had = text.size();
        text.clear();
        forget();
        return had;
    }

    int at(int position) {
        if (position < 0 || position >= text.size()) {
            throw new IndexOutOfBoundsException();
        }
        return text.get(position);
    }

    int kind(int position) {
        return Texts.classOf(nameOf(at(position)));
    }

    private void wantPlace(int place) {
        if (place < 0 || place > text.size()) {
            throw new IndexOutOfBoundsException();
        }
    }

    int breaks(int place) {
        wantPlace(place);
        return verdict(place)[1];
    }

    int rule(int place) {
        wantPlace(place);
        return verdict(place)[0];
    }

    int next(int place) {
        wantPlace(place);
        for (int q = place + 1; q <= text.size(); q++) {
            if (breaks(q) > 0) {
                return q;
            }
        }
        return NONE;
    }

    int fit(int place, int room) {
        wantPlace(place);
        if (room < 1 || room > 2000) {
            throw new IllegalArgumentException();
        }
        if (place == text.size()) {
            return 0;
        }
        int firstMust = place + 1;
        while (breaks(firstMust) != 2) {
            firstMust++;
        }
        for (int q = firstMust; q > place; q--) {
            int end = q;
            while (end > place && kind(end - 1) <= 4) {
                end--;
            }
            if (end - place <= room && breaks(q) > 0) {
                return q - place;
            }
        }
        return room;
    }

    int count(int what) {
        if (what == 0) {
            return text.size();
        }
        int many = 0;
        for (int place = 0; place <= text.size(); place++) {
            many += breaks(place) == what ? 1 : 0;
        }
        return what == 1 || what == 2 ? many : NONE;
    }
}
