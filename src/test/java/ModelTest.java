import java.util.Random;
import java.util.function.Supplier;

/** All promises at once: runs of calls, and all short texts, against the plain model. */
public final class ModelTest {
    private static final int NONE = BreakPlaces.NONE;
    private static final int GREATEST = 1114111;
    private static final int MOST_CALLS = 512;
    private static final String[] COMMON = {"AL", "SP", "CM", "ZWJ", "ZW", "OP", "QU", "CL", "CP", "NS",
        "B2", "RI", "HL", "HY", "BA", "CR", "LF", "EB", "EM", "NU", "PR", "PO", "GL", "WJ", "CJ", "SM"};
    private static final Checks CHECKS = new Checks();

    public static void main(String[] args) {
        checkShortTexts();
        checkTextsThatRepeat();
        checkTextsBehindOthers();
        for (int seed = 1; seed <= 400; seed++) {
            new Run(seed, 44 + seed % 40).go();
        }
        for (int seed = 1001; seed <= 1006; seed++) {
            new Run(seed, 2000).goLong();
        }
        CHECKS.finish();
    }

    /** Each pair of classes, with nothing, with CM, with SP between, and behind each of some others. */
    private static void checkShortTexts() {
        for (String a : Texts.NAMES) {
            for (String b : Texts.NAMES) {
                for (String text : new String[] {a + " " + b, a + " CM " + b, a + " SP " + b,
                    "HL " + a + " " + b, "ZW " + a + " " + b, a + " ZWJ " + b, a + " CM SP " + b,
                    a + " SP CM " + b, "RI " + a + " " + b + " RI"}) {
                    checkText(text);
                }
            }
        }
    }

    private static void checkTextsThatRepeat() {
        for (String a : Texts.NAMES) {
            checkText((a + " ").repeat(7));
            checkText((a + " CM ").repeat(5));
            checkText((a + " SP ").repeat(5));
        }
    }

    /** Whatever an object has read before, a change makes it read the text that there is now. */
    private static void checkTextsBehindOthers() {
        for (String a : Texts.NAMES) {
            for (String b : Texts.NAMES) {
                String text = b + " SP " + b + " " + b + " ID";
                BreakPlaces x = Texts.of("AL " + a + " " + a + " SP");
                x.rule(2);
                x.clear();
                Texts.append(x, text);
                checkText(x, text);
                x.replace(0, 1, Texts.character(a), BreakPlaces.NONE, BreakPlaces.NONE);
                checkText(x, a + " SP " + b + " " + b + " ID");
                x.replace(1, 2, BreakPlaces.NONE, BreakPlaces.NONE, BreakPlaces.NONE);
                checkText(x, a + " " + b + " " + b + " ID");
            }
        }
    }

    private static void checkText(String names) {
        checkText(Texts.of(names), names);
    }

    private static void checkText(BreakPlaces x, String names) {
        PlainModel model = new PlainModel();
        for (int k = 0; k < Texts.NAMES.size(); k++) {
            model.property(1000 + k, 1000 + k, k);
        }
        for (String name : names.trim().split(" ")) {
            model.add(Texts.character(name));
        }
        for (int p = 0; p <= model.count(0); p++) {
            CHECKS.same("rule(" + p + ") of " + names, x.rule(p), model.rule(p));
            CHECKS.same("breaks(" + p + ") of " + names, x.breaks(p), model.breaks(p));
        }
    }

    /** A run of calls on a new object; the same for the same seed. */
    private static final class Run {
        private final int seed;
        private final Random random;
        private final int longest;
        private final BreakPlaces x = new BreakPlaces();
        private final PlainModel model = new PlainModel();
        private int calls = 0;

        Run(int seed, int longest) {
            this.seed = seed;
            this.random = new Random(seed);
            this.longest = longest;
        }

        void go() {
            for (int k = 0; k < Texts.NAMES.size(); k++) {
                property(1000 + k, 1000 + k, k);
            }
            while (calls < MOST_CALLS - 2) {
                step();
            }
        }

        /** Up to the greatest text there may be; few questions, for the model is slow in long texts. */
        void goLong() {
            for (int k = 0; k < 30; k++) {
                property(1000 + k, 1000 + k, random.nextInt(44));
            }
            while (calls < MOST_CALLS - 64) {
                add(plain(), plain(), plain(), plain(), plain());
            }
            while (calls < MOST_CALLS - 2) {
                int place = place(model.count(0));
                switch (random.nextInt(4)) {
                    case 0 -> replace(place, place + random.nextInt(2), plain(), plain(), some());
                    case 1 -> same("next(" + place + ")", () -> x.next(place), () -> model.next(place));
                    case 2 -> same("fit(" + place + ", 60)",
                            () -> x.fit(place, 60), () -> model.fit(place, 60));
                    default -> same("rule(" + place + ")", () -> x.rule(place), () -> model.rule(place));
                }
            }
            same("count(0)", () -> x.count(0), () -> model.count(0));
        }

        private int plain() {
            return 1000 + random.nextInt(40);
        }

        private void step() {
            int size = model.count(0);
            int dice = random.nextInt(100);
            if (dice < 15) {
                if (size < longest) {
                    add(some(), some(), some(), some(), some());
                } else {
                    replace(place(size), place(size), some(), some(), some());
                }
            } else if (dice < 30) {
                int from = place(size);
                replace(from, from + random.nextInt(3), some(), some(), some());
            } else if (dice < 33) {
                tell();
            } else if (dice < 34) {
                boolean is = random.nextBoolean();
                same("loose(" + is + ")", () -> x.loose(is) ? 1 : 0, () -> model.loose(is) ? 1 : 0);
            } else if (random.nextInt(200) == 0) {
                same("clear()", x::clear, model::clear);
            } else {
                ask(size);
            }
        }

        private void ask(int size) {
            int place = place(size);
            int room = random.nextInt(20) == 0 ? random.nextInt(2003) - 1 : random.nextInt(12);
            int what = random.nextInt(6) - 1;
            switch (random.nextInt(9)) {
                case 0 -> same("at(" + place + ")", () -> x.at(place), () -> model.at(place));
                case 1 -> same("kind(" + place + ")", () -> x.kind(place), () -> model.kind(place));
                case 2 -> same("breaks(" + place + ")", () -> x.breaks(place), () -> model.breaks(place));
                case 3 -> same("next(" + place + ")", () -> x.next(place), () -> model.next(place));
                case 4 -> same("count(" + what + ")", () -> x.count(what), () -> model.count(what));
                case 5, 6 -> same("fit(" + place + ", " + room + ")",
                        () -> x.fit(place, room), () -> model.fit(place, room));
                default -> same("rule(" + place + ")", () -> x.rule(place), () -> model.rule(place));
            }
        }

        private void tell() {
            int first = 995 + random.nextInt(55);
            int last = first + random.nextInt(6) - 1;
            if (random.nextBoolean()) {
                property(first, last, random.nextInt(46) - 1);
                return;
            }
            int what = random.nextInt(10) == 0 ? random.nextInt(4) - 1 : random.nextInt(2);
            boolean are = random.nextInt(3) > 0;
            same("mark(" + first + ", " + last + ", " + what + ", " + are + ")", () -> {
                x.mark(first, last, what, are);
                return 0;
            }, () -> {
                model.mark(first, last, what, are);
                return 0;
            });
        }

        private void property(int first, int last, int kind) {
            same("property(" + first + ", " + last + ", " + kind + ")", () -> {
                x.property(first, last, kind);
                return 0;
            }, () -> {
                model.property(first, last, kind);
                return 0;
            });
        }

        private void add(int a, int b, int c, int d, int e) {
            same("add(" + a + ", " + b + ", " + c + ", " + d + ", " + e + ")",
                    () -> x.add(a, b, c, d, e), () -> model.add(a, b, c, d, e));
        }

        private void replace(int from, int to, int a, int b, int c) {
            same("replace(" + from + ", " + to + ", " + a + ", " + b + ", " + c + ")",
                    () -> x.replace(from, to, a, b, c), () -> model.replace(from, to, a, b, c));
        }

        private int place(int size) {
            return random.nextInt(40) == 0 ? random.nextInt(size + 5) - 2 : random.nextInt(size + 1);
        }

        private int some() {
            int dice = random.nextInt(120);
            if (dice == 0) {
                return GREATEST + random.nextInt(2);
            }
            if (dice == 1) {
                return random.nextInt(3) - 2;
            }
            if (dice < 10) {
                return NONE;
            }
            if (dice < 70) {
                return Texts.character(COMMON[random.nextInt(COMMON.length)]);
            }
            return 998 + random.nextInt(48);
        }

        private void same(String call, Supplier<Integer> program, Supplier<Integer> plain) {
            calls++;
            CHECKS.sameText("run " + seed + ", call " + calls + ": " + call, answer(program), answer(plain));
        }

        private static String answer(Supplier<Integer> call) {
            try {
                return String.valueOf(call.get());
            } catch (RuntimeException thrown) {
                return "throws." + thrown.getClass().getSimpleName();
            }
        }
    }
}
