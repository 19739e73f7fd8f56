/** Promises 10 and 11: breaks, rule. Texts in the order of the rules, each with what is due. */
public final class RuleTest {
    private static final Checks CHECKS = new Checks();

    public static void main(String[] args) {
        rules2To8a();
        rules9And10();
        rules11To13();
        rules14To18();
        rules19To22();
        rules23To25();
        rules26To29();
        rules30To31();
        wrongPlaces();
        CHECKS.finish();
    }

    /** The rules and the breaks of all places of a text: those at its ends are due in each. */
    private static void due(String names, String rules, String breaks) {
        BreakPlaces x = Texts.of(names);
        CHECKS.sameText("rules of " + names, Texts.rules(x), "20 " + rules + " 30");
        CHECKS.sameText("breaks of " + names, Texts.breaks(x), "0" + breaks + "2");
    }

    /** The rule of the place between two sets of classes, for each pair. */
    private static void pairs(String before, String behind, int rule, int breaks) {
        for (String a : before.split(" ")) {
            for (String b : behind.split(" ")) {
                BreakPlaces x = Texts.of(a + " " + b);
                CHECKS.same("rule of " + a + " " + b, x.rule(1), rule);
                CHECKS.same("breaks of " + a + " " + b, x.breaks(1), breaks);
            }
        }
    }

    private static void rules2To8a() {
        BreakPlaces none = Texts.empty();
        CHECKS.sameText("rules of no text", Texts.rules(none), "20");
        CHECKS.sameText("breaks of no text", Texts.breaks(none), "0");
        BreakPlaces one = Texts.of("BK");
        CHECKS.sameText("rules of BK alone", Texts.rules(one), "20 30");
        CHECKS.sameText("breaks of BK alone", Texts.breaks(one), "02");
        pairs("BK", "BK CR LF NL SP ZW WJ ZWJ CM GL CL AL XX CJ", 40, 2);
        pairs("CR", "LF", 50, 0);
        pairs("CR", "BK CR NL SP ZW ZWJ CM GL CL AL", 50, 2);
        pairs("LF NL", "BK CR LF NL SP ZW ZWJ CM GL CL AL", 50, 2);
        pairs("SP ZW WJ ZWJ CM GL OP QU AL RI", "BK CR LF NL", 60, 0);
        pairs("SP ZW WJ ZWJ CM GL OP QU AL CB", "SP ZW", 70, 0);
        pairs("ZW", "WJ ZWJ CM GL CL QU AL ID CB", 80, 1);
        due("ZW SP SP CM", "70 70 80", "001");
        due("ZW SP SP CL", "70 70 80", "001");
        due("ZW AL SP CL", "80 70 130", "100");
        due("ZW CM SP AL", "80 70 180", "101");
        pairs("ZWJ", "WJ ZWJ CM GL CL QU AL ID CB EM", 81, 0);
        due("SP ZWJ ID", "180 81", "10");
        due("ZWJ CM ID", "81 310", "01");
        due("AL ZWJ ID", "90 81", "00");
    }

    private static void rules9And10() {
        pairs("WJ CM GL B2 BA BB HY CB CL CP EX IN NS OP QU IS NU PO PR SY AL HL ID EB EM H2 H3 JL JV"
                + " JT RI AI SG XX SA SM CJ", "CM ZWJ SM", 90, 0);
        due("SP CM NU", "180 230", "10");
        due("SP ZWJ SP NU", "180 70 180", "101");
        due("SP CM CM CM ID", "180 90 90 310", "1001");
        due("CM NU", "230", "0");
        due("CM CM NU", "90 230", "00");
        due("ID CM CM ID", "90 90 310", "001");
        due("LF CM CM NU", "50 90 230", "200");
        due("NU CM SM ZWJ CM NU", "90 90 90 81 250", "00000");
        due("OP CM SP CM SP ID", "90 70 140 70 180", "00001");
        due("WJ CM ID", "90 110", "00");
        due("GL CM ID", "90 120", "00");
    }

    private static void rules11To13() {
        pairs("SP CM GL OP QU AL ID CB BA RI", "WJ", 110, 0);
        pairs("WJ", "WJ GL CL OP QU AL ID CB BA RI", 110, 0);
        due("SP WJ SP AL", "110 70 180", "001");
        pairs("GL", "GL CL OP QU AL ID CB BA RI", 120, 0);
        pairs("CM OP QU AL ID CB BB CL RI NS IN", "GL", 121, 0);
        pairs("SP", "GL", 180, 1);
        pairs("BA HY", "GL", 310, 1);
        due("HL BA GL", "210 211", "00");
        due("BA CM GL", "90 310", "01");
        due("QU SP GL", "70 180", "01");
        due("OP SP GL", "70 140", "00");
        pairs("SP CM OP QU AL ID CB BA BB CL RI NS IN NU", "CL CP EX IS SY", 130, 0);
        due("AL SP EX", "70 130", "00");
    }

    private static void rules14To18() {
        pairs("OP", "B2 BA BB HY CB IN NS OP QU NU PO PR AL HL ID EB EM H2 RI CJ", 140, 0);
        due("OP SP SP ID", "70 70 140", "000");
        due("OP SP CM ID", "70 140 310", "001");
        due("OP CM SP SP QU", "90 70 70 140", "0000");
        due("OP LF SP ID", "60 50 180", "021");
        due("OP AL SP ID", "140 70 180", "001");
        due("QU OP", "150", "0");
        due("QU SP SP OP", "70 70 150", "000");
        due("QU CM SP OP", "90 70 150", "000");
        due("QU SP CM OP", "70 180 300", "010");
        due("QU SP AL", "70 180", "01");
        pairs("CL CP", "NS CJ", 160, 0);
        due("CL SP SP NS", "70 70 160", "000");
        due("CP CM SP NS", "90 70 160", "000");
        due("EX SP NS", "70 180", "01");
        due("CL SP AL", "70 180", "01");
        pairs("B2", "B2", 170, 0);
        due("B2 SP B2", "70 170", "00");
        due("B2 CM CM SP B2", "90 90 70 170", "0000");
        due("B2 SP CM B2", "70 180 310", "011");
        pairs("B2", "ID AL OP", 310, 1);
        pairs("SP", "B2 BA BB HY CB IN NS OP QU NU PO PR AL HL ID EB EM H2 RI CM ZWJ", 180, 1);
    }

    private static void rules19To22() {
        pairs("QU", "B2 BA BB HY CB IN NS QU NU PO PR AL HL ID EB EM H2 RI", 190, 0);
        pairs("B2 BA BB HY CB IN NS CL NU PO PR AL HL ID EB EM H2 RI", "QU", 190, 0);
        pairs("CB", "B2 BA BB HY CB IN NS OP NU PO PR AL HL ID EB EM H2 RI", 200, 1);
        pairs("B2 BA BB HY IN NS CL NU PO PR AL HL ID EB EM H2 RI", "CB", 200, 1);
        pairs("B2 BA BB HY IN NS EX NU PO PR AL HL ID EB EM H2 RI", "BA HY NS", 210, 0);
        pairs("BB", "B2 BB IN OP NU PO PR AL HL ID EB EM H2 RI", 210, 0);
        due("HL HY ID", "210 211", "00");
        due("HL BA ID", "210 211", "00");
        due("HL CM HY CM CM AL", "90 210 90 90 211", "00000");
        due("HL HY NU", "210 211", "00");
        due("AL HY ID", "210 310", "01");
        due("HL HY HY ID", "210 210 310", "001");
        due("HL SP HY ID", "70 180 310", "011");
        due("HL NS ID", "210 310", "01");
        due("HL HY SP ID", "210 70 180", "001");
        due("HL HY CB", "210 200", "01");
        pairs("SY", "HL", 212, 0);
        pairs("SY", "AL ID", 310, 1);
        pairs("B2 BA HY IN NS CL EX NU PO PR AL HL ID EB EM H2 RI XX CM", "IN", 220, 0);
        pairs("IN", "AL ID NU OP", 310, 1);
    }

    private static void rules23To25() {
        pairs("AL HL AI SG XX SA CM", "NU", 230, 0);
        pairs("NU", "AL HL AI SG XX SA", 230, 0);
        pairs("PR", "ID EB EM", 231, 0);
        pairs("ID EB EM", "PO", 231, 0);
        pairs("PO", "ID EB EM", 310, 1);
        pairs("ID EB EM", "PR", 310, 1);
        pairs("PR PO", "AL HL XX", 240, 0);
        pairs("AL HL XX CM", "PR PO", 240, 0);
        pairs("CL CP NU", "PO PR", 250, 0);
        pairs("PO PR", "OP NU", 250, 0);
        pairs("HY IS NU SY", "NU", 250, 0);
        pairs("BA CL EX IN NS ID RI", "NU", 310, 1);
        pairs("EX IS SY", "PO PR", 310, 1);
        pairs("PO PR", "PO PR", 310, 1);
        due("NU SP PO", "70 180", "01");
        due("PR CM NU CM PO", "90 250 90 250", "0000");
    }

    private static void rules26To29() {
        pairs("JL", "JL JV H2 H3", 260, 0);
        pairs("JL", "JT", 310, 1);
        pairs("JV H2", "JV JT", 260, 0);
        pairs("JV H2", "JL H2 H3", 310, 1);
        pairs("JT H3", "JT", 260, 0);
        pairs("JT H3", "JL JV H2 H3", 310, 1);
        pairs("JL JV JT H2 H3", "PO", 270, 0);
        pairs("JL JV JT H2 H3", "PR", 310, 1);
        pairs("PR", "JL JV JT H2 H3", 270, 0);
        pairs("PO", "JL JV JT H2 H3", 310, 1);
        pairs("AL HL AI SG XX SA CM", "AL HL AI SG XX SA", 280, 0);
        pairs("IS", "AL HL XX", 290, 0);
        pairs("IS", "ID OP", 310, 1);
        due("AL SP AL", "70 180", "01");
    }

    private static void rules30To31() {
        pairs("AL HL NU XX CM", "OP", 300, 0);
        pairs("CP", "AL HL NU XX", 300, 0);
        pairs("CL", "AL HL NU XX", 310, 1);
        pairs("ID RI H2 EX", "OP", 310, 1);
        due("RI RI RI RI RI", "301 310 301 310", "0101");
        due("RI CM RI CM RI CM CM RI", "90 301 90 310 90 90 301", "0001000");
        due("RI ZWJ RI RI RI", "90 81 310 301", "0010");
        due("RI SP RI RI", "70 180 301", "010");
        due("RI RI AL RI RI RI", "301 310 310 301 310", "01101");
        due("RI SP CM RI RI", "70 180 310 301", "0110");
        due("CM RI RI RI", "310 301 310", "101");
        pairs("EB", "EM", 302, 0);
        due("EB CM EM EM", "90 302 310", "001");
        pairs("AL ID EM NU", "EM", 310, 1);
        pairs("EB", "EB ID AL", 310, 1);
        pairs("ID", "ID AL NU RI EB EM", 310, 1);
        pairs("AL", "ID RI EB EM B2 BB", 310, 1);
        pairs("RI", "AL ID", 310, 1);
    }

    private static void wrongPlaces() {
        BreakPlaces x = Texts.of("AL SP AL");
        int[] wrong = {-1, 4, 5, 2000, 2001, Integer.MIN_VALUE, Integer.MAX_VALUE};
        for (int w : wrong) {
            CHECKS.badIndex("rule(" + w + ")", () -> x.rule(w));
            CHECKS.badIndex("breaks(" + w + ")", () -> x.breaks(w));
        }
        CHECKS.same("rule at the end", x.rule(3), 30);
        CHECKS.same("breaks at the end", x.breaks(3), 2);
    }
}
