/** Promises 10 and 11, rule by rule: breaks and rule. Texts with what is due at each place. */
public final class RuleTest {
    private static final Checks CHECKS = new Checks();
    private static final String LETTERS = "AL HL AI SG XX SA";

    public static void main(String[] args) {
        CHECKS.sentence("2: none at place 0.", RuleTest::rule2);
        CHECKS.sentence("3: MUST at place n.", RuleTest::rule3);
        CHECKS.sentence("4: MUST behind BK.", RuleTest::rule4);
        CHECKS.sentence("5: none between CR and LF; MUST behind CR, LF, NL.", RuleTest::rule5);
        CHECKS.sentence("6: none before BK, CR, LF, NL.", RuleTest::rule6);
        CHECKS.sentence("7: none before SP, ZW.", RuleTest::rule7);
        CHECKS.sentence("8: MAY behind ZW and any number of SP (or none) behind that.", RuleTest::rule8);
        CHECKS.sentence("8a: none behind ZWJ.", RuleTest::rule8a);
        CHECKS.sentence("9: none before CM and ZWJ", RuleTest::rule9);
        CHECKS.sentence("but at the beginning of the text and behind BK, CR, LF, NL, SP, ZW", RuleTest::rule9But);
        CHECKS.sentence("A is the class of the character before all of them", RuleTest::leftOut);
        CHECKS.sentence("10: other CM, ZWJ count as AL.", RuleTest::rule10);
        CHECKS.sentence("11: none before or behind WJ.", RuleTest::rule11);
        CHECKS.sentence("12: none behind GL.", RuleTest::rule12);
        CHECKS.sentence("12a: none before GL, but behind SP, BA, HY.", RuleTest::rule12a);
        CHECKS.sentence("13: none before CL, CP, EX, IS, SY.", RuleTest::rule13);
        CHECKS.sentence("14: none behind OP", RuleTest::rule14);
        CHECKS.sentence("15: none between QU and OP", RuleTest::rule15);
        CHECKS.sentence("16: none between CL or CP, and NS", RuleTest::rule16);
        CHECKS.sentence("17: none between B2 and B2", RuleTest::rule17);
        CHECKS.sentence("In 14 to 17 with any number of SP (or none) between", RuleTest::anyNumberOfSp);
        CHECKS.sentence("18: MAY behind SP.", RuleTest::rule18);
        CHECKS.sentence("19: none before or behind QU.", RuleTest::rule19);
        CHECKS.sentence("20: MAY before and behind CB.", RuleTest::rule20);
        CHECKS.sentence("21: none before BA, HY, NS, nor behind BB.", RuleTest::rule21);
        CHECKS.sentence("21a: none behind HY or BA that is behind HL (directly, but for what is left out).",
                RuleTest::rule21a);
        CHECKS.sentence("21b: none between SY and HL.", RuleTest::rule21b);
        CHECKS.sentence("22: none before IN.", RuleTest::rule22);
        CHECKS.sentence("23: none between AL, HL and NU, nor between NU and AL, HL.", RuleTest::rule23);
        CHECKS.sentence("23a: none between PR and ID, EB, EM, nor between these and PO.", RuleTest::rule23a);
        CHECKS.sentence("24: none between PR, PO and AL, HL, nor between AL, HL and PR, PO.", RuleTest::rule24);
        CHECKS.sentence("25: none between CL, CP, NU and PO, PR; nor between PO, PR and OP, NU; nor between"
                + " HY, IS, NU, SY and NU.", RuleTest::rule25);
        CHECKS.sentence("26: none between JL and JL, JV, H2, H3; nor between JV, H2 and JV, JT; nor between"
                + " JT, H3 and JT.", RuleTest::rule26);
        CHECKS.sentence("27: none between JL, JV, JT, H2, H3 and PO, nor between PR and these.",
                RuleTest::rule27);
        CHECKS.sentence("28: none between AL, HL and AL, HL.", RuleTest::rule28);
        CHECKS.sentence("29: none between IS and AL, HL.", RuleTest::rule29);
        CHECKS.sentence("30: none between AL, HL, NU and an OP that is not WIDE", RuleTest::rule30Op);
        CHECKS.sentence("nor between a CP that is not WIDE and AL, HL, NU.", RuleTest::rule30Cp);
        CHECKS.sentence("30a: none between RI and RI, if as many RI as are in a row before the place (but for"
                + " what is left out) are odd.", RuleTest::rule30a);
        CHECKS.sentence("30b: none between EB, or a PICTURE, and EM.", RuleTest::rule30b);
        CHECKS.sentence("31: MAY.", RuleTest::rule31);
        CHECKS.sentence("told by the first of these rules that does", RuleTest::firstRuleThatDoes);
        CHECKS.sentence("ten times its number, and 1 for a, 2 for b", RuleTest::numbers);
        CHECKS.sentence("rule: IndexOutOfBounds: there is no such place", RuleTest::noSuchPlace);
        CHECKS.finish();
    }

    /** The rules and the breaks of all places of a text: those at its ends are due in each. */
    private static void due(String names, String rules, String breaks) {
        BreakPlaces x = Texts.of(names);
        CHECKS.sameText("rules of " + names, Texts.rules(x), "20 " + rules + " 30");
        CHECKS.sameText("breaks of " + names, Texts.breaks(x), "0" + breaks + "2");
    }

    /** The rule of the place between two sets of classes, for each pair. */
    private static void pairs(String before, String behind, int rule, int breaks) {
        for (String a : before.split(" ")) {
            for (String b : behind.split(" ")) {
                last(a + " " + b, rule, breaks);
            }
        }
    }

    /** What is due at the place before the last character. */
    private static void last(String names, int rule, int breaks) {
        last(Texts.of(names), names, rule, breaks);
    }

    private static void last(BreakPlaces x, String names, int rule, int breaks) {
        int place = x.count(0) - 1;
        CHECKS.same("rule before the last of " + names, x.rule(place), rule);
        CHECKS.same("breaks before the last of " + names, x.breaks(place), breaks);
    }

    /** Before the last character, with so many of one kind between a first and a last one. */
    private static void manyBetween(String first, String between, int many, String last, int rule, int breaks) {
        BreakPlaces x = Texts.of(first);
        Texts.fill(x, Texts.character(between), many);
        Texts.append(x, last);
        last(x, first + ", " + many + " " + between + ", " + last, rule, breaks);
    }

    private static void rule2() {
        for (String name : Texts.NAMES) {
            BreakPlaces x = Texts.of(name + " ID");
            CHECKS.same("rule(0) before " + name, x.rule(0), 20);
            CHECKS.same("breaks(0) before " + name, x.breaks(0), 0);
        }
        BreakPlaces none = Texts.empty();
        CHECKS.sameText("rules of no text, where 0 is n, too", Texts.rules(none), "20");
        CHECKS.sameText("breaks of no text", Texts.breaks(none), "0");
    }

    private static void rule3() {
        for (String name : Texts.NAMES) {
            BreakPlaces one = Texts.of(name);
            CHECKS.same("rule behind " + name + " alone", one.rule(1), 30);
            CHECKS.same("breaks behind " + name + " alone", one.breaks(1), 2);
            BreakPlaces two = Texts.of("OP " + name);
            CHECKS.same("rule behind OP " + name, two.rule(2), 30);
            CHECKS.same("breaks behind OP " + name, two.breaks(2), 2);
        }
        BreakPlaces full = Texts.filled(3, 2000);
        CHECKS.same("rule(2000) of 2000", full.rule(2000), 30);
        CHECKS.same("breaks(2000) of 2000", full.breaks(2000), 2);
        CHECKS.same("rule(1999) of 2000", full.rule(1999), 280);
    }

    private static void rule4() {
        pairs("BK", String.join(" ", Texts.NAMES), 40, 2);
        due("BK BK BK", "40 40", "22");
        due("AL BK SP AL", "60 40 180", "021");
    }

    private static void rule5() {
        pairs("CR", "LF", 50, 0);
        for (String name : Texts.NAMES) {
            if (!name.equals("LF")) {
                pairs("CR", name, 50, 2);
            }
            pairs("LF NL", name, 50, 2);
        }
        due("CR LF CR LF", "50 50 50", "020");
        due("CR CR LF LF", "50 50 50", "202");
        due("LF CR", "50", "2");
        due("CR SP LF", "50 60", "20");
        due("CR CM LF", "50 60", "20");
        due("LF LF", "50", "2");
        due("NL LF", "50", "2");
    }

    private static void rule6() {
        for (String name : Texts.NAMES) {
            if (Texts.classOf(name) > Texts.classOf("NL")) {
                pairs(name, "BK CR LF NL", 60, 0);
            }
        }
        due("ZW SP BK", "70 60", "00");
        due("OP SP LF", "70 60", "00");
    }

    private static void rule7() {
        for (String name : Texts.NAMES) {
            if (Texts.classOf(name) > Texts.classOf("NL")) {
                pairs(name, "SP ZW", 70, 0);
            }
        }
        due("ZW SP ZW SP", "70 70 70", "000");
        due("SP SP SP", "70 70", "00");
    }

    private static void rule8() {
        for (String name : Texts.NAMES) {
            if (Texts.classOf(name) > Texts.classOf("ZW")) {
                pairs("ZW", name, 80, 1);
                last("ZW SP " + name, 80, 1);
                last("ZW SP SP SP " + name, 80, 1);
            }
        }
        due("ZW SP SP CM", "70 70 80", "001");
        due("ZW ZW SP CL", "70 70 80", "001");
        due("ZW AL SP CL", "80 70 130", "100");
        due("ZW CM SP AL", "80 70 180", "101");
        due("ZW LF SP GL", "60 50 180", "021");
        due("SP ZW GL", "70 80", "01");
        due("ZW ZWJ AL", "80 81", "10");
        manyBetween("ZW", "SP", 300, "CL", 80, 1);
        manyBetween("ZW", "SP", 1998, "CL", 80, 1);
    }

    private static void rule8a() {
        for (String name : Texts.NAMES) {
            if (Texts.classOf(name) > Texts.classOf("ZW")) {
                pairs("ZWJ", name, 81, 0);
                last("ID ZWJ " + name, 81, 0);
                last("SP ZWJ " + name, 81, 0);
            }
        }
        due("SP ZWJ ID", "180 81", "10");
        due("ZWJ CM ID", "81 310", "01");
        due("AL ZWJ ID", "90 81", "00");
        due("CB ZWJ CB", "90 81", "00");
        due("ID ZWJ SP ID", "90 70 180", "001");
        due("ID CM ZWJ CM ID", "90 90 81 310", "0001");
    }

    private static void rule9() {
        for (String name : Texts.NAMES) {
            if (Texts.classOf(name) > Texts.classOf("ZWJ")) {
                pairs(name, "CM ZWJ SM", 90, 0);
            }
        }
        pairs("WJ", "CM ZWJ SM", 90, 0);
        due("CM CM", "90", "0");
        due("ID CM CM CM", "90 90 90", "000");
        due("CB CM", "90", "0");
    }

    private static void rule9But() {
        due("CM ID", "310", "1");
        due("CM NU", "230", "0");
        due("SM NU", "230", "0");
        due("ZWJ NU", "81", "0");
        for (String joined : new String[] {"CM", "SM"}) {
            due("BK " + joined + " NU", "40 230", "20");
            due("CR " + joined + " NU", "50 230", "20");
            due("LF " + joined + " NU", "50 230", "20");
            due("NL " + joined + " NU", "50 230", "20");
            due("SP " + joined + " NU", "180 230", "10");
            due("ZW " + joined + " NU", "80 230", "10");
        }
        due("BK ZWJ CM NU", "40 81 230", "200");
        due("SP ZWJ CM NU", "180 81 230", "100");
        due("ZW ZWJ CM NU", "80 81 230", "100");
    }

    private static void leftOut() {
        due("ID CM CM ID", "90 90 310", "001");
        due("NU CM SM ZWJ CM NU", "90 90 90 81 250", "00000");
        due("WJ CM ID", "90 110", "00");
        due("GL CM ID", "90 120", "00");
        due("OP CM SP CM SP ID", "90 70 140 70 180", "00001");
        due("QU CM CM ID", "90 90 190", "000");
        due("CB CM AL", "90 200", "01");
        due("BB ZWJ CM ID", "90 81 210", "000");
        due("JL CM JV CM JT", "90 260 90 260", "0000");
        due("PR CM NU CM PO", "90 250 90 250", "0000");
        manyBetween("GL", "CM", 300, "ID", 120, 0);
        manyBetween("GL", "CM", 1998, "ID", 120, 0);
        manyBetween("ID", "SM", 1998, "ID", 310, 1);
    }

    private static void rule10() {
        due("CM CM NU", "90 230", "00");
        due("LF CM CM NU", "50 90 230", "200");
        due("SP CM CM CM ID", "180 90 90 310", "1001");
        due("SP CM NU", "180 230", "10");
        due("SP CM HL", "180 280", "10");
        due("SP CM OP", "180 300", "10");
        due("SP CM PR", "180 240", "10");
        due("SP ZWJ CM OP", "180 81 300", "100");
        due("QU SP ZWJ", "70 180", "01");
        due("OP SP CM ID", "70 140 310", "001");
        due("SP ZWJ SP NU", "180 70 180", "101");
    }

    private static void rule11() {
        pairs("SP CM GL OP QU AL ID CB BA RI WJ EX NU", "WJ", 110, 0);
        pairs("WJ", "WJ GL CL OP QU AL ID CB BA RI NS IN", 110, 0);
        due("SP WJ SP AL", "110 70 180", "001");
        due("CB CM WJ", "90 110", "00");
        due("ID WJ CM ID", "110 90 110", "000");
    }

    private static void rule12() {
        pairs("GL", "GL CL OP QU AL ID CB BA RI NS B2 EM", 120, 0);
        due("GL SP AL", "70 180", "01");
        due("GL CM CB", "90 120", "00");
    }

    private static void rule12a() {
        pairs("CM OP QU AL ID CB BB CL RI NS IN B2 EX NU", "GL", 121, 0);
        pairs("SP", "GL", 180, 1);
        pairs("BA HY", "GL", 310, 1);
        due("HL BA GL", "210 211", "00");
        due("BA CM GL", "90 310", "01");
        due("HY CM GL", "90 310", "01");
        due("BA ZWJ GL", "90 81", "00");
        due("QU SP GL", "70 180", "01");
        due("OP SP GL", "70 140", "00");
        due("SP CM GL", "180 121", "10");
        due("AL CM GL", "90 121", "00");
    }

    private static void rule13() {
        pairs("SP CM OP QU AL ID CB BA BB CL RI NS IN NU HY", "CL CP EX IS SY", 130, 0);
        due("AL SP EX", "70 130", "00");
        due("AL SP SP SP CL", "70 70 70 130", "0000");
        due("ID CM SY", "90 130", "00");
    }

    private static void rule14() {
        pairs("OP", "B2 BA BB HY CB IN NS OP QU NU PO PR AL HL ID EB EM H2 RI CJ", 140, 0);
        due("OP SP SP ID", "70 70 140", "000");
        due("OP SP CM ID", "70 140 310", "001");
        due("OP CM SP SP QU", "90 70 70 140", "0000");
        due("OP LF SP ID", "60 50 180", "021");
        due("OP ZW SP ID", "70 70 80", "001");
        due("OP AL SP ID", "140 70 180", "001");
        due("OP OP SP CB", "140 70 140", "000");
    }

    private static void rule15() {
        due("QU OP", "150", "0");
        due("QU SP OP", "70 150", "00");
        due("QU SP SP OP", "70 70 150", "000");
        due("QU CM SP OP", "90 70 150", "000");
        due("QU CM OP", "90 150", "00");
        due("QU SP CM OP", "70 180 300", "010");
        due("QU SP AL", "70 180", "01");
        due("QU AL SP OP", "190 70 180", "001");
        due("OP SP QU", "70 140", "00");
        due("AL SP QU", "70 180", "01");
    }

    private static void rule16() {
        pairs("CL CP", "NS CJ", 160, 0);
        due("CL SP NS", "70 160", "00");
        due("CL SP SP NS", "70 70 160", "000");
        due("CP CM SP NS", "90 70 160", "000");
        due("CP SP CJ", "70 160", "00");
        due("EX SP NS", "70 180", "01");
        due("CL SP AL", "70 180", "01");
        due("CL SP CM NS", "70 180 210", "010");
        due("CP AL SP NS", "300 70 180", "001");
        BreakPlaces loose = Texts.of("CL SP CJ CL CJ");
        loose.loose(true);
        CHECKS.sameText("rules of CL SP CJ CL CJ, LOOSE", Texts.rules(loose), "20 70 180 130 310 30");
    }

    private static void rule17() {
        pairs("B2", "B2", 170, 0);
        due("B2 SP B2", "70 170", "00");
        due("B2 CM CM SP B2", "90 90 70 170", "0000");
        due("B2 SP CM B2", "70 180 310", "011");
        due("B2 AL SP B2", "310 70 180", "101");
        pairs("B2", "ID AL OP", 310, 1);
        pairs("AL ID CL", "B2", 310, 1);
        due("B2 SP AL", "70 180", "01");
    }

    private static void anyNumberOfSp() {
        String[][] cases = {{"OP", "ID", "140"}, {"QU", "OP", "150"}, {"CL", "NS", "160"},
            {"CP", "NS", "160"}, {"B2", "B2", "170"}};
        for (String[] one : cases) {
            for (int many : new int[] {0, 1, 2, 3, 255, 256, 257, 1998}) {
                manyBetween(one[0], "SP", many, one[1], Integer.parseInt(one[2]), 0);
            }
        }
        // Nothing but SP is passed over.
        due("OP GL SP ID", "121 70 180", "001");
        due("B2 LF SP B2", "60 50 180", "021");
    }

    private static void rule18() {
        pairs("SP", "B2 BA BB HY CB IN NS OP QU NU PO PR AL HL ID EB EM H2 RI CM ZWJ GL", 180, 1);
        due("AL SP SP SP AL", "70 70 70 180", "0001");
        due("SP AL", "180", "1");
        due("RI SP RI", "70 180", "01");
        due("BB SP AL", "70 180", "01");
        due("PR SP NU", "70 180", "01");
        manyBetween("AL", "SP", 1998, "AL", 180, 1);
    }

    private static void rule19() {
        pairs("QU", "B2 BA BB HY CB IN NS QU NU PO PR AL HL ID EB EM H2 RI", 190, 0);
        pairs("B2 BA BB HY CB IN NS CL NU PO PR AL HL ID EB EM H2 RI", "QU", 190, 0);
        due("ID QU ID", "190 190", "00");
        due("ID CM QU CM ID", "90 190 90 190", "0000");
    }

    private static void rule20() {
        pairs("CB", "B2 BA BB HY CB IN NS OP NU PO PR AL HL ID EB EM H2 RI", 200, 1);
        pairs("B2 BA BB HY IN NS CL NU PO PR AL HL ID EB EM H2 RI", "CB", 200, 1);
        due("AL CB AL", "200 200", "11");
        due("AL CB CM AL", "200 90 200", "101");
    }

    private static void rule21() {
        pairs("B2 BA BB HY IN NS EX NU PO PR AL HL ID EB EM H2 RI", "BA HY NS CJ", 210, 0);
        pairs("BB", "B2 BB IN OP NU PO PR AL HL ID EB EM H2 RI", 210, 0);
        pairs("BA NS", "AL ID NU OP", 310, 1);
        pairs("AL ID", "BB", 310, 1);
        due("BB CM ID", "90 210", "00");
    }

    private static void rule21a() {
        due("HL HY ID", "210 211", "00");
        due("HL BA ID", "210 211", "00");
        due("HL CM HY CM CM AL", "90 210 90 90 211", "00000");
        due("HL CM ZWJ CM BA ID", "90 90 81 210 211", "00000");
        due("HL HY NU", "210 211", "00");
        due("AL HY ID", "210 310", "01");
        due("HL HY HY ID", "210 210 310", "001");
        due("HL BA BA ID", "210 210 310", "001");
        due("HL SP HY ID", "70 180 310", "011");
        due("HL NS ID", "210 310", "01");
        due("HL HY SP ID", "210 70 180", "001");
        due("HL HY CB", "210 200", "01");
        due("HL AL HY ID", "280 210 310", "001");
        due("HY ID", "310", "1");
        due("BA ID", "310", "1");
        manyBetween("HL HY", "CM", 600, "ID", 211, 0);
    }

    private static void rule21b() {
        pairs("SY", "HL", 212, 0);
        pairs("SY", "AL ID", 310, 1);
        pairs("EX CL", "HL", 310, 1);
        due("SY CM HL", "90 212", "00");
        due("SY SP HL", "70 180", "01");
    }

    private static void rule22() {
        pairs("B2 BA HY IN NS CL EX NU PO PR AL HL ID EB EM H2 RI XX CM", "IN", 220, 0);
        pairs("IN", "AL ID NU OP", 310, 1);
        due("ID CM IN", "90 220", "00");
    }

    private static void rule23() {
        pairs(LETTERS + " CM SM", "NU", 230, 0);
        pairs("NU", LETTERS, 230, 0);
        pairs("ID EM RI", "NU", 310, 1);
        pairs("NU", "ID EM RI", 310, 1);
        due("AL CM NU CM HL", "90 230 90 230", "0000");
    }

    private static void rule23a() {
        pairs("PR", "ID EB EM", 231, 0);
        pairs("ID EB EM", "PO", 231, 0);
        pairs("PO", "ID EB EM", 310, 1);
        pairs("ID EB EM", "PR", 310, 1);
        due("PR CM ID CM PO", "90 231 90 231", "0000");
    }

    private static void rule24() {
        pairs("PR PO", LETTERS, 240, 0);
        pairs(LETTERS + " CM", "PR PO", 240, 0);
        pairs("PR PO", "RI B2 BB", 310, 1);
        due("PO CM AL CM PR", "90 240 90 240", "0000");
    }

    private static void rule25() {
        pairs("CL CP NU", "PO PR", 250, 0);
        pairs("PO PR", "OP NU", 250, 0);
        pairs("HY IS NU SY", "NU", 250, 0);
        pairs("BA CL EX IN NS ID RI", "NU", 310, 1);
        pairs("EX IS SY HY", "PO PR", 310, 1);
        pairs("PO PR", "PO PR", 310, 1);
        due("NU SP PO", "70 180", "01");
        due("PR CM NU CM PO", "90 250 90 250", "0000");
    }

    private static void rule26() {
        pairs("JL", "JL JV H2 H3", 260, 0);
        pairs("JL", "JT", 310, 1);
        pairs("JV H2", "JV JT", 260, 0);
        pairs("JV H2", "JL H2 H3", 310, 1);
        pairs("JT H3", "JT", 260, 0);
        pairs("JT H3", "JL JV H2 H3", 310, 1);
        due("JL CM H3 CM JT", "90 260 90 260", "0000");
    }

    private static void rule27() {
        pairs("JL JV JT H2 H3", "PO", 270, 0);
        pairs("JL JV JT H2 H3", "PR", 310, 1);
        pairs("PR", "JL JV JT H2 H3", 270, 0);
        pairs("PO", "JL JV JT H2 H3", 310, 1);
        due("PR CM H2 CM PO", "90 270 90 270", "0000");
    }

    private static void rule28() {
        pairs(LETTERS + " CM SM", LETTERS, 280, 0);
        due("AL SP AL", "70 180", "01");
        due("AL CM CM HL", "90 90 280", "000");
        pairs("AL", "ID RI EB EM B2 BB", 310, 1);
    }

    private static void rule29() {
        pairs("IS", LETTERS, 290, 0);
        pairs("IS", "ID OP RI EM", 310, 1);
        pairs("EX", "AL", 310, 1);
        due("IS CM AL", "90 290", "00");
        due("IS SP AL", "70 180", "01");
    }

    private static BreakPlaces marked(String names, String name, int what) {
        BreakPlaces x = Texts.of(names);
        Texts.markAs(x, name, what, true);
        return x;
    }

    private static void rule30Op() {
        for (String name : (LETTERS + " NU CM").split(" ")) {
            last(name + " OP", 300, 0);
            last(marked(name + " OP", "OP", Texts.WIDE), name + " WIDE OP", 310, 1);
            last(marked(name + " OP", name, Texts.WIDE), "WIDE " + name + " OP", 300, 0);
            last(marked(name + " OP", "OP", Texts.PICTURE), name + " PICTURE OP", 300, 0);
        }
        pairs("ID RI H2 EX", "OP", 310, 1);
        due("AL CM OP", "90 300", "00");
        last(marked("QU OP", "OP", Texts.WIDE), "QU WIDE OP", 150, 0);
        last(marked("PR OP", "OP", Texts.WIDE), "PR WIDE OP", 250, 0);
    }

    private static void rule30Cp() {
        for (String name : (LETTERS + " NU").split(" ")) {
            last("CP " + name, 300, 0);
            last(marked("CP " + name, "CP", Texts.WIDE), "WIDE CP " + name, 310, 1);
            last(marked("CP " + name, name, Texts.WIDE), "CP WIDE " + name, 300, 0);
            last(marked("CP " + name, "CP", Texts.PICTURE), "PICTURE CP " + name, 300, 0);
        }
        pairs("CL", LETTERS + " NU", 310, 1);
        pairs("CP", "ID OP RI EM", 310, 1);
        due("CP CM AL", "90 300", "00");
        last(marked("CP CM AL", "CP", Texts.WIDE), "WIDE CP CM AL", 310, 1);
        last(marked("CP CM AL", "CM", Texts.WIDE), "CP WIDE CM AL", 300, 0);
        last(marked("CP PO", "CP", Texts.WIDE), "WIDE CP PO", 250, 0);
    }

    private static void rule30a() {
        due("RI RI", "301", "0");
        due("RI RI RI", "301 310", "01");
        due("RI RI RI RI RI", "301 310 301 310", "0101");
        due("RI CM RI CM RI CM CM RI", "90 301 90 310 90 90 301", "0001000");
        due("RI ZWJ RI RI RI", "90 81 310 301", "0010");
        due("RI SP RI RI", "70 180 301", "010");
        due("RI RI AL RI RI RI", "301 310 310 301 310", "01101");
        due("RI AL RI RI", "310 310 301", "110");
        due("RI SP CM RI RI", "70 180 310 301", "0110");
        due("RI LF CM RI RI", "60 50 310 301", "0210");
        due("CM RI RI RI", "310 301 310", "101");
        due("RI WJ RI RI", "110 110 301", "000");
        for (int many : new int[] {1, 2, 3, 255, 256, 257, 1998, 1999}) {
            BreakPlaces x = Texts.empty();
            Texts.fill(x, Texts.character("RI"), many + 1);
            last(x, many + " RI before RI", many % 2 == 1 ? 301 : 310, many % 2 == 1 ? 0 : 1);
        }
        manyBetween("RI", "CM", 600, "RI", 301, 0);
        manyBetween("RI RI", "CM", 600, "RI", 310, 1);
    }

    private static void rule30b() {
        pairs("EB", "EM", 302, 0);
        due("EB CM EM EM", "90 302 310", "001");
        pairs("AL ID EM NU RI", "EM", 310, 1);
        pairs("EB", "EB ID AL", 310, 1);
        for (String name : new String[] {"AL", "ID", "EM", "NU", "RI", "XX", "HL", "IN", "NS", "BA", "JL"}) {
            last(marked(name + " EM", name, Texts.PICTURE), "PICTURE " + name + " EM", 302, 0);
            last(marked(name + " CM EM", name, Texts.PICTURE), "PICTURE " + name + " CM EM", 302, 0);
            last(marked(name + " CM EM", "CM", Texts.PICTURE), name + " PICTURE CM EM", 310, 1);
            last(marked(name + " EM", name, Texts.WIDE), "WIDE " + name + " EM", 310, 1);
            last(marked(name + " EB", name, Texts.PICTURE), "PICTURE " + name + " EB", 310, 1);
        }
        last(marked("ID EM", "EM", Texts.PICTURE), "ID PICTURE EM", 310, 1);
        last(marked("ID SP EM", "ID", Texts.PICTURE), "PICTURE ID SP EM", 180, 1);
        last(marked("SP EM", "SP", Texts.PICTURE), "PICTURE SP EM", 180, 1);
        last(marked("CM EM", "CM", Texts.PICTURE), "PICTURE CM, as AL, EM", 302, 0);
    }

    private static void rule31() {
        pairs("ID", "ID AL NU RI EB EM", 310, 1);
        pairs("AL", "ID RI EB EM B2 BB", 310, 1);
        pairs("RI", "AL ID", 310, 1);
        pairs("EX CL", "ID AL OP BB", 310, 1);
        pairs("JT", "AL ID NU", 310, 1);
    }

    /** Two rules hold at the last place but one of each of these texts; the first of them tells. */
    private static void firstRuleThatDoes() {
        CHECKS.same("2 and 3", new BreakPlaces().rule(0), 20);
        for (String end : new String[] {"BK", "LF", "ZW", "ZWJ", "GL", "OP"}) {
            CHECKS.same("3 behind " + end, Texts.of(end).rule(1), 30);
        }
        String[][] cases = {
            {"BK BK", "40"}, {"BK SP", "40"}, {"BK WJ", "40"}, {"CR BK", "50"}, {"LF SP", "50"},
            {"NL ZW", "50"}, {"ZW LF", "60"}, {"ZWJ BK", "60"}, {"GL CR", "60"}, {"ZW SP", "70"},
            {"ZW ZW", "70"}, {"ZWJ SP", "70"}, {"OP ZW", "70"}, {"ZW WJ", "80"}, {"ZW SP CL", "80"},
            {"ZW GL", "80"}, {"ZWJ CM", "81"}, {"ZWJ WJ", "81"}, {"ZWJ CB", "81"}, {"WJ CM", "90"},
            {"CB CM", "90"}, {"GL ZWJ", "90"}, {"GL WJ", "110"}, {"WJ GL", "110"}, {"OP SP WJ", "110"},
            {"GL GL", "120"}, {"GL CL", "120"}, {"GL CB", "120"}, {"OP GL", "121"}, {"CB GL", "121"},
            {"OP CL", "130"}, {"SP EX", "130"}, {"CB SY", "130"}, {"OP SP AL", "140"}, {"OP QU", "140"},
            {"OP CB", "140"}, {"OP NS", "140"}, {"QU SP OP", "150"}, {"QU OP", "150"}, {"CL SP NS", "160"},
            {"CP NS", "160"}, {"B2 SP B2", "170"}, {"SP QU", "180"}, {"SP CB", "180"}, {"SP BA", "180"},
            {"SP IN", "180"}, {"QU CB", "190"}, {"CB QU", "190"}, {"BB QU", "190"}, {"QU BA", "190"},
            {"QU IN", "190"}, {"CB BA", "200"}, {"BB CB", "200"}, {"CB IN", "200"}, {"HL BA CB", "200"},
            {"HL HY BA", "210"}, {"BB IN", "210"}, {"BB NU", "210"}, {"HL BA IN", "211"},
            {"HL HY NU", "211"}, {"HL BA GL", "211"}, {"AL IN", "220"}, {"PR IN", "220"}};
        for (String[] one : cases) {
            BreakPlaces x = Texts.of(one[0]);
            CHECKS.same("rule of " + one[0], x.rule(x.count(0) - 1), Integer.parseInt(one[1]));
        }
        CHECKS.same("23a and 30b", marked("PR EM", "PR", Texts.PICTURE).rule(1), 231);
        CHECKS.same("12 and 30b", marked("GL EM", "GL", Texts.PICTURE).rule(1), 120);
        CHECKS.same("21 and 30b", marked("BB EM", "BB", Texts.PICTURE).rule(1), 210);
    }

    /** Each number there is, once. */
    private static void numbers() {
        String[] texts = {"ID", "ID", "BK ID", "LF ID", "ID LF", "ID SP", "ZW ID", "ZWJ ID", "ID CM", "WJ ID",
            "GL ID", "ID GL", "ID CL", "OP ID", "QU OP", "CL NS", "B2 B2", "SP ID", "QU ID", "CB ID", "ID BA",
            "HL BA ID", "SY HL", "ID IN", "AL NU", "PR ID", "PR AL", "NU PO", "JL JV", "JL PO", "AL AL", "IS AL",
            "CP AL", "RI RI", "EB EM", "ID ID"};
        int[] due = {20, 30, 40, 50, 60, 70, 80, 81, 90, 110, 120, 121, 130, 140, 150, 160, 170, 180, 190, 200,
            210, 211, 212, 220, 230, 231, 240, 250, 260, 270, 280, 290, 300, 301, 302, 310};
        CHECKS.same("as many texts as numbers", texts.length, due.length);
        for (int i = 0; i < due.length; i++) {
            BreakPlaces x = Texts.of(texts[i]);
            int place = due[i] == 30 ? x.count(0) : x.count(0) - 1;
            CHECKS.same("rule in " + texts[i], x.rule(place), due[i]);
        }
    }

    private static void noSuchPlace() {
        Refused refused = new Refused(CHECKS, () -> Texts.of("AL SP AL"));
        for (int wrong : new int[] {-1, 4, 5, 2000, 2001, Integer.MIN_VALUE, Integer.MAX_VALUE}) {
            refused.badIndex("rule(" + wrong + ")", x -> x.rule(wrong));
        }
        BreakPlaces x = Texts.of("AL SP AL");
        CHECKS.same("rule at the end", x.rule(3), 30);
        Texts.cut(x, 2, 3);
        CHECKS.badIndex("rule at a place that is gone", () -> x.rule(3));
        CHECKS.same("rule at the new end", x.rule(2), 30);
        CHECKS.badIndex("rule(1) of no text", () -> new BreakPlaces().rule(1));
        CHECKS.badIndex("rule(-1) of no text", () -> new BreakPlaces().rule(-1));
        CHECKS.badIndex("rule(2001) of 2000", () -> Texts.filled(3, 2000).rule(2001));
    }
}
