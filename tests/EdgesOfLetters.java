/** The edges of a FAMILY told in letters, and what of REFUSALS is told in words. */
final class EdgesOfLetters extends Check {
    /** Which numbers there are, which STATEMENTS: the first letter and how many digits. */
    private static final String[] GOOD = {"p00;", "d000;", "o00000;", "c00000;", "s0;", "k00;"};

    static void run() {
        feeding();
        ninetySix();
        statements();
        faultsOfForm();
        faultsOfSense();
        allOrNothing();
        refusals();
        longs();
        calls();
    }

    private static void feeding() {
        about(2, "A letter comes: how many there are. -4; -6 (255; 96, too).");
        AcrossTheGap x = new AcrossTheGap();
        due(x.feed(-1), -4);
        due(x.feed(256), -6);
        due(x.count(5), 0);
        due(x.feed(0), 1);
        due(x.feed(255), 2);
        for (int many = 3; many <= 96; many++) {
            due(x.feed(';'), many);
        }
        due(x.feed(';'), -6);
        due(x.feed(0), -6);
        due(x.feed(256), -6);
        due(x.feed(-1), -4);
        due(x.count(5), 96);
    }

    private static void ninetySix() {
        about("A FAMILY is told in letters, one by one (96 at most)");
        AcrossTheGap x = told("p00;");
        String most = "s0;".repeat(32);
        for (int i = 0; i < 96; i++) {
            due(x.feed(most.charAt(i)), i + 1);
        }
        due(x.feed('x'), -6);
        due(x.family(), 32);
        due(x.count(5), 0);
        due(x.feed('s'), 1);
        due(x.feed('0'), 2);
        due(x.feed(';'), 3);
        due(x.family(), 1);
        due(x.person(0, 2), 1);
        about(3, "The letters, which are no more then (with a FAULT neither), are a FAMILY: how many STATEMENTS; the FAULT (nothing is counted).");
        due(tell(x, "s0;x"), -1003);
        due(x.count(5), 0);
        due(tell(x, "s0;s1;"), -2003);
        due(x.count(5), 0);
        due(x.person(0, 2), 1);
        for (int what = 11; what <= 15; what++) {
            due(x.count(what), 0);
        }
        due(x.count(16), 1);
    }

    /** What a text answers, told to one who sits alone, OPEN from 1 to 22, KNOWS FACT 5. */
    private static void one(String text, int answer, int openHours, int known) {
        AcrossTheGap x = told("p00;o00122;k05;");
        due(tell(x, text), answer);
        due(x.person(0, 1), openHours);
        due(x.person(0, 3), known);
    }

    private static void statements() {
        int open = bits(24) - 1 - bits(0, 23);
        int known = bits(5);
        about("\"p\" KIN (2 digits): one more");
        String[] taken = {"p00;", "p63;", "d000;", "d599;", "d509;", "d590;", "s0;", "k05;"};
        for (String text : taken) {
            one(text, 1, open, known);
        }
        AcrossTheGap kin = told("p00;p63;p09;");
        due(kin.person(1, 0), 63);
        due(kin.person(2, 0), 9);
        String[] not = {"p64;", "p99;", "d600;", "d900;", "o01312;", "o00100;", "o00024;", "o02424;", "o02399;",
            "o10000;", "o90000;", "c01312;", "c00100;", "c00024;", "c02424;", "c10000;", "c90000;", "s1;", "s9;",
            "k10;", "k99;"};
        for (String text : not) {
            one(text, -2000, open, known);
        }
        about("\"d\" KIND, FIGURE, FACT (a digit each): one of DEAD more");
        AcrossTheGap dead = told("d589;");
        due(dead.dead(0, 0), 5);
        due(dead.dead(0, 1), 8);
        due(dead.dead(0, 2), 9);
        about("\"o\" one (a digit), two HOURS (2 digits each, the first no later than the other): OPEN from the one to the other");
        one("o00000;", 1, open | bits(0), known);
        one("o02323;", 1, open | bits(23), known);
        one("o00023;", 1, bits(24) - 1, known);
        one("o00101;", 1, open, known);
        one("o02223;", 1, open | bits(23), known);
        about("\"c\" one (a digit), two HOURS likewise: no more OPEN");
        one("c00101;", 1, open - bits(1), known);
        one("c02222;", 1, open - bits(22), known);
        one("c02323;", 1, open, known);
        one("c00000;", 1, open, known);
        one("c00023;", 1, 0, known);
        one("c00222;", 1, bits(1), known);
        about("\"s\" one (a digit): SHUT, or, told again, not");
        AcrossTheGap x = told("p00;s0;");
        due(x.person(0, 2), 1);
        due(tell(x, "s0;"), 1);
        due(x.person(0, 2), 0);
        due(tell(x, "s0;s0;s0;"), 3);
        due(x.person(0, 2), 1);
        due(x.shut(0), 0);
        due(tell(x, "s0;"), 1);
        due(x.person(0, 2), 1);
        about("\"k\" one, a FACT (a digit each): he KNOWS it");
        one("k00;", 1, open, known | bits(0));
        one("k09;", 1, open, known | bits(9));
        one("k09;k09;k05;", 3, open, known | bits(9));
        AcrossTheGap seven = told("p00;p00;p00;p00;p00;p00;p00;o60023;k69;s6;");
        due(seven.person(6, 1), bits(24) - 1);
        due(seven.person(6, 3), bits(9));
        due(seven.person(6, 2), 1);
        due(tell(seven, "k79;"), -2000);
        due(tell(seven, "o70000;"), -2000);
        due(tell(seven, "s7;"), -2000);
    }

    private static void faultsOfForm() {
        about("At least one STATEMENT");
        AcrossTheGap x = told("p00;");
        due(x.family(), -1000);
        due(x.family(), -1000);
        due(tell(x, "s0;"), 1);
        due(x.family(), -1000);
        about("kind 1 the place of the first letter with which no FAMILY can go on (the end, if something lacks): -1000 less the place");
        for (String statement : GOOD) {
            for (int i = 0; i < statement.length(); i++) {
                String ahead = "p00;" + statement.substring(0, i);
                due(tell(x, ahead + "x"), -1000 - 4 - i);
                due(tell(x, ahead + (char) 0), -1000 - 4 - i);
                due(tell(x, ahead + (char) 255 + "p00;"), -1000 - 4 - i);
                boolean digitIsDue = i > 0 && i < statement.length() - 1;
                due(tell(x, ahead + (digitIsDue ? "/" : "0")), -1000 - 4 - i);
                due(tell(x, ahead + (digitIsDue ? ":" : "9")), -1000 - 4 - i);
                due(tell(x, ahead + (i < statement.length() - 1 ? ";" : ":")), -1000 - 4 - i);
                if (i > 0) {
                    due(tell(x, ahead), -1000 - 4 - i);
                }
                x = told("p00;");
            }
        }
        due(tell(x, "s0;".repeat(31) + "s0x"), -1095);
        due(tell(x, "s0;".repeat(31) + "s00"), -1095);
        due(tell(x, "s0;".repeat(31) + "k00"), -1096);
        due(x.person(0, 2), 0);
    }

    private static void faultsOfSense() {
        about("else kind 2 the place of the first letter of the first STATEMENT that, behind all ahead of it in the text, is not as it must be (a number out of range, no such one, no room): -2000 less the place");
        AcrossTheGap x = new AcrossTheGap();
        due(tell(x, "s0;p00;"), -2000);
        due(tell(x, "p00;s1;p64;"), -2004);
        due(tell(x, "p00;s0;k00;o00000;p64;s9;"), -2018);
        due(tell(x, "p64;p6"), -1006);
        due(tell(x, "p00;p00;s1;p00;s3;"), -2015);
        due(x.count(0), 0);
        due(tell(x, "p00;p00;s1;p00;s2;"), 5);
        due(tell(x, "p00;p00;p00;p00;p00;"), -2016);
        due(tell(x, "p00;p00;p00;p00;"), 4);
        due(tell(x, "s6;p00;"), -2003);
        due(x.person(6, 2), 0);
        due(tell(x, "d000;d000;d000;d000;d000;d000;d000;"), -2030);
        due(tell(x, "d000;d000;d000;d000;d000;d000;"), 6);
        due(tell(x, "d000;"), -2000);
        due(tell(x, "s0;".repeat(31) + "s7;"), -2093);
        due(x.count(0) + x.count(1), 13);
    }

    private static void allOrNothing() {
        about("Without FAULT all of it comes, with one nothing");
        String all = "p07;d111;o00023;c00505;s0;k03;";
        AcrossTheGap x = told("p01;d000;o00505;");
        x.shut(0);
        due(tell(x, all + "p64;"), -2030);
        due(tell(x, all + "p6"), -1032);
        due(x.count(0), 1);
        due(x.count(1), 1);
        due(x.count(2), 1);
        due(x.count(3), 1);
        due(x.count(4), 0);
        due(x.count(7), 1);
        due(tell(x, all), 6);
        due(x.count(0), 2);
        due(x.count(1), 2);
        due(x.count(2), 0);
        due(x.count(3), 23);
        due(x.count(4), 1);
        due(x.count(7), 0);
    }

    private static void refusals() {
        about("REFUSALS (the call answers the number, the first that fits in the order in which it tells them; nothing changes but how many there were)");
        AcrossTheGap x = told("p01;p00;d000;o00505;");
        about("-1 NOBODY: no such one, FACT, HOUR. -2 OTHER: what, KIND. -3 STATE: it is not as told. -4 BELOW: a number below the least. -6 ROOM: a number above the greatest, no room.");
        due(x.shut(2), -1);
        due(x.spoke(1), -1);
        due(x.learns(0, 10), -1);
        due(x.open(0, 24), -1);
        due(x.count(11), 4);
        due(x.two(2), -2);
        due(x.dies(6, 0, 0), -2);
        due(x.count(12), 2);
        due(x.back(), -3);
        due(x.restore(), -3);
        x.row(11);
        due(x.sham(0), -3);
        due(x.count(13), 3);
        due(x.row(-1), -4);
        due(x.count(14), 1);
        due(x.row(100), -6);
        due(x.comes(64), -6);
        due(x.count(16), 2);
        due(x.count(15), 0);
    }

    private static void longs() {
        about("Of longs 4000000000000000000 less them (-1 as 4000000000000000001)");
        AcrossTheGap x = told("p01;p00;d000;o00505;");
        due(x.colds(2, 0, 2, 0), 4000000000000000001L);
        due(x.colds(0, 10, 2, 0), 4000000000000000001L);
        due(x.colds(0, 0, 2, 2), 4000000000000000002L);
        due(x.colds(0, 0, 1, 2), 4000000000000000004L);
        due(x.colds(0, 0, 21, 2), 4000000000000000006L);
        due(x.share(1, 0), 4000000000000000001L);
        due(x.share(0, 2), 4000000000000000002L);
        due(x.count(11), 3);
        due(x.count(12), 2);
        due(x.count(14), 1);
        due(x.count(16), 1);
    }

    private static void calls() {
        about("An object is used for at most 512 calls after it has been made");
        AcrossTheGap x = new AcrossTheGap();
        int calls = 0;
        while (calls < 7) {
            due(x.comes(63), calls);
            calls++;
        }
        while (calls < 511) {
            due(x.colds(6, 9, 20, 1), 1);
            calls++;
        }
        due(x.count(0), 7);
        AcrossTheGap refused = new AcrossTheGap();
        for (int i = 0; i < 511; i++) {
            due(refused.back(), -3);
        }
        due(refused.count(13), 511);
    }
}
