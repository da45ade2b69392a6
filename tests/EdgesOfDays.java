import java.math.BigInteger;

/** The edges of part II that a DAY tells by itself, of the ROW and of the lots. */
final class EdgesOfDays extends Check {
    private static final String FULL_TABLE = "p00;p00;p00;p00;p00;p00;p00;";
    private static final String SIX_OPEN = "o00023;o10023;o20023;o30023;o40023;o50023;";

    static void run() {
        behindHours();
        inAnHour();
        firstTwo();
        heard();
        howOften();
        canBeSaid();
        sham();
        who();
        questions();
        quarrels();
        silent();
        colds();
        list();
        rows();
        judged();
        draws();
        lots();
    }

    /** Six who hiss, each through one of six, all DAY; DEAD d tells FACT d. */
    private static AcrossTheGap sixFacts() {
        return told(FULL_TABLE + "d500;d501;d502;d503;d504;d505;", SIX_OPEN);
    }

    /** The same, but all tell FACT 9. */
    private static AcrossTheGap oneFact() {
        return told(FULL_TABLE + "d509;d509;d509;d509;d509;d509;", SIX_OPEN);
    }

    private static void behindHours() {
        about("By a DAY, behind n HOURS (0 .. 24): what one KNOWS");
        AcrossTheGap x = told("p01;p00;d007;k12;o00000;");
        due(x.knows(1, 0), bits(2));
        due(x.knows(1, 1), bits(2, 7));
        due(x.knows(1, 24), bits(2, 7));
        about(15, "Behind n HOURS what one KNOWS. -1; -4; -6 24.");
        due(x.knows(1, -1), -4);
        due(x.knows(1, 25), -6);
        due(x.knows(2, 0), -1);
        due(x.knows(-1, 25), -1);
        due(x.knows(0, 24), 0);
    }

    private static void inAnHour() {
        about("in HOUR h: through whom one of DEAD speaks (-9); how many speak; who speaks through one (bits)");
        AcrossTheGap x = sixFacts();
        due(x.through(5, 0), 5);
        due(x.through(5, 23), 5);
        due(x.speak(-1, 0), 6);
        due(x.speak(-1, 23), 6);
        due(x.speak(5, 23), bits(5));
        due(x.speak(6, 23), 0);
        about(16, "Through whom one of DEAD speaks in an HOUR; -9. -1 either.");
        due(x.through(6, 0), -1);
        due(x.through(-1, 0), -1);
        due(x.through(0, 24), -1);
        due(x.through(0, -1), -1);
        due(told("d500;").through(0, 0), -9);
        about(17, "how many speak in it at all (person -1). -1 either (below -1, too).");
        due(x.speak(-2, 0), -1);
        due(x.speak(7, 0), -1);
        due(x.speak(-1, 24), -1);
        due(x.speak(-1, -1), -1);
        due(new AcrossTheGap().speak(-1, 23), 0);
        due(new AcrossTheGap().speak(0, 23), -1);
    }

    private static void firstTwo() {
        about("FIRST TWO through one: the HOUR; -9; in how many HOURS some two do");
        AcrossTheGap first = told("p03;p00;d000;d300;o00000;");
        due(first.two(0), 0);
        due(first.two(1), 1);
        AcrossTheGap last = told("p03;p00;d000;d310;o00023;c00022;");
        due(last.two(0), 23);
        due(last.two(1), 1);
        AcrossTheGap all = told("p07;p00;d000;d300;d310;o00023;");
        due(all.two(0), 0);
        due(all.two(1), 24);
        // Two in an HOUR, but not through one.
        AcrossTheGap apart = told("p01;p02;d000;d310;o00023;o10023;");
        due(apart.two(0), -9);
        due(apart.two(1), 0);
        about(18, "FIRST TWO (what 0; -9), in how many HOURS (1). -2.");
        due(all.two(-1), -2);
        due(all.two(2), -2);
        due(new AcrossTheGap().two(0), -9);
        due(new AcrossTheGap().two(1), 0);
    }

    private static void heard() {
        about("HEARD: the HOUR behind which one first KNOWS a FACT (0: at first; HOUR and 1); -9");
        due(told("p01;p00;d009;k19;o00000;").heard(1, 9), 0);
        due(told("p01;p00;d009;o00000;o02323;").heard(1, 9), 1);
        due(told("p01;p00;d009;o02323;").heard(1, 9), 24);
        due(told("p01;p00;d009;o02323;").heard(0, 9), -9);
        about(19, "HEARD; -9. -1 either.");
        AcrossTheGap x = told("p01;p00;d000;o00000;");
        due(x.heard(1, 0), 1);
        due(x.heard(1, 9), -9);
        due(x.heard(1, 10), -1);
        due(x.heard(1, -1), -1);
        due(x.heard(2, 0), -1);
        due(x.heard(-1, 0), -1);
    }

    private static void howOften() {
        about("SPOKE: how often one of DEAD speaks in a DAY; TOLD: how often a FACT is told");
        AcrossTheGap x = oneFact();
        due(x.spoke(0), 24);
        due(x.spoke(5), 24);
        due(x.told(9, 0), 144);
        due(x.told(0, 0), 0);
        due(told("p00;d009;o00023;").spoke(0), 0);
        due(told("p01;d009;o02323;").spoke(0), 1);
        // Told, though nobody hears it.
        due(told("p01;d009;o00023;").told(9, 0), 24);
        // Those who come last are told of at once.
        AcrossTheGap more = told("p07;p07;p00;d000;o00000;o10000;");
        due(more.dies(3, 0, 7), 1);
        due(more.told(7, 0), 1);
        due(more.dies(0, 0, 8), 2);
        due(more.told(8, 0), 1);
        due(more.told(9, 0), 0);
        about(20, "SPOKE. -1.");
        due(x.spoke(6), -1);
        due(x.spoke(-1), -1);
        about("KNOWING: how many KNOW a FACT at the end; ALL: all FACTS that all KNOW together (one and a FACT counts 1)");
        due(x.told(9, 1), 7);
        due(x.told(0, 1), 0);
        about(22, "ALL at the end.");
        due(x.all(), 7);
        due(sixFacts().all(), 12);
        AcrossTheGap most = told(FULL_TABLE);
        for (int p = 0; p < 7; p++) {
            for (int fact = 0; fact <= 9; fact++) {
                due(most.learns(p, fact), 1);
            }
        }
        due(most.all(), 70);
        due(new AcrossTheGap().all(), 0);
        due(told("d000;").all(), 0);
        about(21, "TOLD (what 0), KNOWING (1). -1; -2.");
        due(x.told(-1, 2), -1);
        due(x.told(10, 2), -1);
        due(x.told(0, -1), -2);
        due(x.told(9, 2), -2);
    }

    private static void canBeSaid() {
        about("CAN: whether a FACT is said through one in an HOUR of the DAY: 1, 0");
        AcrossTheGap x = told("p03;p00;d000;d309;o00000;o02222;");
        due(x.can(0, 0, 0), 1);
        due(x.can(0, 9, 0), 1);
        due(x.can(0, 1, 0), 0);
        due(x.can(0, 9, 22), 1);
        due(x.can(0, 9, 23), 0);
        due(x.can(1, 0, 0), 0);
        about(28, "CAN. -1 any.");
        due(x.can(2, 0, 0), -1);
        due(x.can(-1, 0, 0), -1);
        due(x.can(0, -1, 0), -1);
        due(x.can(0, 10, 0), -1);
        due(x.can(0, 0, -1), -1);
        due(x.can(0, 0, 24), -1);
        due(told("p01;d000;o02323;").can(0, 0, 23), 1);
    }

    /** A ROW of 24, all alike but the last. */
    private static void longRow(AcrossTheGap x, int most, int last) {
        x.clear();
        for (int i = 1; i < 24; i++) {
            due(x.row(most), i);
        }
        due(x.row(last), 24);
    }

    private static void sham() {
        about("the first HOUR in which none of those who speak through him says so (or somebody speaks and none is told); -9");
        AcrossTheGap x = told("p07;p00;d000;d309;d319;o00023;");
        due(x.sham(0), -9);
        longRow(x, 0, 0);
        due(x.sham(0), -9);
        due(x.sham(1), 0);
        longRow(x, 9, 9);
        due(x.sham(0), -9);
        longRow(x, 0, 1);
        due(x.sham(0), 23);
        longRow(x, 0, 10);
        due(x.sham(0), 23);
        longRow(x, 10, 10);
        due(x.sham(0), 0);
        due(x.sham(1), -9);
        longRow(x, 10, 0);
        due(x.sham(1), 23);
        due(x.count(6), 24);
        about(29, "SHAM by the ROW (it stays); -9. -1; -3 one above 10.");
        longRow(x, 10, 11);
        due(x.sham(1), -3);
        due(x.sham(0), -3);
        due(x.sham(2), -1);
        due(x.sham(-1), -1);
        rowOf(x, 11);
        due(x.sham(1), -3);
        rowOf(x, 10);
        due(x.sham(1), -9);
        // One HOUR is told, one is not: the ROW's end is no HOUR in which none is told.
        rowOf(x, 0);
        due(x.sham(0), -9);
        due(new AcrossTheGap().sham(0), -1);
    }

    private static void who() {
        about("WHO: of DEAD (bits) those whose number of times to speak through one in a DAY is as told (0 .. 24)");
        AcrossTheGap x = sixFacts();
        due(x.who(5, 24), bits(5));
        due(x.who(5, 0), bits(0, 1, 2, 3, 4));
        due(x.who(6, 0), 63);
        due(x.who(6, 24), 0);
        due(x.who(0, 23), 0);
        about(30, "WHO (bits). -1; -4; -6 24.");
        due(x.who(0, -1), -4);
        due(x.who(0, 25), -6);
        due(x.who(7, 0), -1);
        due(x.who(-1, 25), -1);
        due(told("p00;").who(0, 0), 0);
    }

    private static void questions() {
        about("QUESTIONS: the fewest of DEAD (bits, of several the least) who together tell all FACTS that any of them tells");
        about(31, "QUESTIONS (bits).");
        due(new AcrossTheGap().questions(), 0);
        due(told("d009;").questions(), 1);
        due(sixFacts().questions(), 63);
        due(oneFact().questions(), 1);
        due(told("d009;d000;d009;d000;d005;d005;").questions(), bits(0, 1, 4));
    }

    private static void quarrels() {
        about("QUARRELS: in how many HOURS two QUARRELS or more speak; PEACE: the fewest of QUARRELS (bits, of several the least) that must be away for that never to be");
        AcrossTheGap none = told("p63;d000;d100;d200;d400;d500;o00023;");
        due(none.quarrels(0), 0);
        due(none.quarrels(1), 0);
        AcrossTheGap one = told("p63;d300;d000;o00023;");
        due(one.quarrels(0), 0);
        due(one.quarrels(1), 0);
        AcrossTheGap two = told("p03;d300;d300;o00023;");
        due(two.quarrels(0), 12);
        due(two.quarrels(1), bits(0));
        AcrossTheGap even = told("p03;d300;d310;o00023;");
        due(even.quarrels(0), 0);
        due(even.quarrels(1), 0);
        AcrossTheGap four = told("p15;d300;d310;d310;d300;o00023;");
        due(four.quarrels(0), 24);
        due(four.quarrels(1), bits(0, 1));
        AcrossTheGap six = told("p63;p63;p63;d300;d300;d300;d300;d300;d300;", "o00000;o10000;o20000;");
        due(six.quarrels(0), 1);
        due(six.quarrels(1), bits(0, 1, 2, 3, 4));
        about(32, "QUARRELS (what 0), PEACE (1, bits). -2.");
        due(six.quarrels(-1), -2);
        due(six.quarrels(2), -2);
        due(new AcrossTheGap().quarrels(0), 0);
        due(new AcrossTheGap().quarrels(1), 0);
    }

    private static void silences(AcrossTheGap x, int hours, int longest, int from) {
        due(x.silent(0), hours);
        due(x.silent(1), longest);
        due(x.silent(2), from);
    }

    private static void silent() {
        about("SILENT: HOURS in which nobody speaks; the longest run of such; from which HOUR, the first such");
        silences(new AcrossTheGap(), 24, 24, 0);
        silences(told("p01;d000;"), 24, 24, 0);
        silences(told("p01;d000;o00122;"), 2, 1, 0);
        silences(told("p01;d000;o00121;"), 3, 2, 22);
        silences(told("p01;d000;o00222;"), 3, 2, 0);
        silences(told("p01;d000;o00022;"), 1, 1, 23);
        silences(told("p01;d000;o00123;"), 1, 1, 0);
        silences(told("p01;d000;o00000;"), 23, 23, 1);
        silences(told("p01;d000;o02323;"), 23, 23, 0);
        silences(told("p01;d000;o01111;o02323;"), 22, 11, 0);
        silences(told("p01;d000;o01212;"), 23, 12, 0);
        about(33, "SILENT: HOURS (what 0), the longest run (1), from which HOUR (2; -9 none). -2.");
        AcrossTheGap never = told("p01;d000;o00023;");
        silences(never, 0, 0, -9);
        due(never.silent(-1), -2);
        due(never.silent(3), -2);
    }

    private static void odds(AcrossTheGap x, int person, int fact, int t, long above, long below) {
        due(x.colds(person, fact, t, 0), above);
        due(x.colds(person, fact, t, 1), below);
    }

    private static void colds() {
        about("COLDS: each who is not SHUT is so with odds 1 in t (2 .. 20), by himself, all DAY: how likely one KNOWS a FACT at the end: a fraction");
        AcrossTheGap x = told("p01;p00;d000;k09;o00000;");
        odds(x, 1, 0, 2, 1, 2);
        odds(x, 1, 0, 20, 19, 20);
        about(34, "COLDS; part 0 above, 1 below the line. Refused as told: -1 either; -4; -6 20; -2.");
        due(x.colds(1, 0, 1, 0), BIG + 4);
        due(x.colds(1, 0, 0, 0), BIG + 4);
        due(x.colds(1, 0, 21, 0), BIG + 6);
        due(x.colds(1, 0, 20, -1), BIG + 2);
        due(x.colds(1, 0, 20, 2), BIG + 2);
        due(x.colds(2, 0, 2, 0), BIG + 1);
        due(x.colds(1, 10, 2, 0), BIG + 1);
        due(new AcrossTheGap().colds(0, 0, 2, 0), BIG + 1);
        about("(Fractions are told in lowest terms; 0 as 0 over 1.)");
        odds(x, 0, 0, 20, 0, 1);
        odds(x, 0, 9, 20, 1, 1);
        x.shut(1);
        odds(x, 1, 0, 20, 19, 20);
        x.shut(0);
        odds(x, 1, 0, 20, 0, 1);
        odds(x, 0, 9, 20, 1, 1);
        odds(told("p01;d000;o00023;"), 0, 0, 2, 0, 1);
        // Three of four in 4 by t 2: through 0, or, if he is ill, through 2.
        AcrossTheGap both = told("p01;p00;p01;p00;d000;o00000;o20000;");
        odds(both, 1, 0, 2, 3, 4);
        odds(both, 3, 0, 20, 399, 400);
        AcrossTheGap seven = told("p01;p01;p01;p01;p01;p01;p01;d001;", "o00000;o10000;o20000;o30000;o40000;o50000;o60000;");
        // 6 hears it through 0, not ill, or through 5 behind five who are: 19 in 20 and 19 in 20 to the 6th.
        odds(seven, 6, 1, 20, 60800019L, 64000000L);
        // 0 hears it through 1 or through 6: all of the 7 count.
        odds(seven, 0, 1, 20, 60800019L, 1280000000L);
    }

    private static void list() {
        about("LIST of a child (any of PEOPLE): the FACTS (bits) that he does not know at first and KNOWS at the end; behind which HOUR (as of HEARD) the last of these is known; -9 none");
        AcrossTheGap first = told("p01;p00;d009;o00023;");
        due(first.list(1, 0), bits(9));
        due(first.list(1, 1), 1);
        due(told("p01;p00;d009;o02323;").list(1, 1), 24);
        due(told("p01;p00;d000;o02323;").list(1, 1), 24);
        AcrossTheGap two = told("p03;p00;d001;d319;o00000;o02323;");
        due(two.list(1, 0), bits(1, 9));
        due(two.list(1, 1), 24);
        AcrossTheGap known = told("p01;p00;d009;k19;o00023;");
        due(known.list(1, 0), 0);
        due(known.list(1, 1), -9);
        about(35, "LIST (what 0, bits), behind which HOUR (1; -9). -1; -2.");
        due(known.list(0, 0), 0);
        due(known.list(0, 1), -9);
        due(known.list(1, -1), -2);
        due(known.list(1, 2), -2);
        due(known.list(2, 2), -1);
        due(known.list(-1, 0), -1);
    }

    private static void rows() {
        about("A ROW of numbers (0 .. 99; 24 at most)");
        AcrossTheGap x = new AcrossTheGap();
        due(x.row(-1), -4);
        due(x.row(100), -6);
        due(x.count(6), 0);
        due(x.row(0), 1);
        for (int many = 2; many <= 24; many++) {
            due(x.row(99), many);
        }
        due(x.row(99), -6);
        due(x.count(6), 24);
        about(53, "A number more of the ROW: how many. -4; -6 (99; 24, too).");
        due(x.row(-1), -4);
        due(x.row(100), -6);
        about(55, "The ROW has none then: how many it had.");
        due(x.clear(), 24);
        due(x.count(6), 0);
        due(x.clear(), 0);
        due(x.row(99), 1);
    }

    private static void judged() {
        about("JUDGED: how many speak in HOURS 0, 1, ..: the first that is not so; -9");
        AcrossTheGap x = sixFacts();
        due(x.judge(), -9);
        longRow(x, 6, 6);
        due(x.judge(), -9);
        longRow(x, 6, 5);
        due(x.judge(), 23);
        longRow(x, 6, 7);
        due(x.judge(), 23);
        longRow(x, 99, 6);
        due(x.judge(), 0);
        about(54, "JUDGED; -9 (whichever it answers, the ROW has none then).");
        due(x.count(6), 0);
        rowOf(x, 6);
        due(x.judge(), -9);
        due(x.count(6), 0);
        AcrossTheGap nobody = new AcrossTheGap();
        longRow(nobody, 0, 0);
        due(nobody.judge(), -9);
        longRow(nobody, 0, 1);
        due(nobody.judge(), 23);
    }

    /** The DRAWS below 24 one behind the other, by numbers of any size. */
    private static int[] drawn(int z, int many) {
        BigInteger turn = BigInteger.ONE.shiftLeft(32);
        BigInteger is = BigInteger.valueOf(z).mod(turn);
        int[] hours = new int[many];
        for (int i = 0; i < many; i++) {
            is = is.multiply(BigInteger.valueOf(1103515245)).add(BigInteger.valueOf(12345)).mod(turn);
            hours[i] = is.clearBit(31).shiftRight(16).mod(BigInteger.valueOf(24)).intValue();
        }
        return hours;
    }

    private static void draws() {
        about("z becomes z times 1103515245 plus 12345 (an int, wrapping); a DRAW below n is (z without its sign's bit, over 65536, cut) modulo n");
        int[] seeds = {0, 1, -1, 5, MAX, MIN, MIN + 1, 65536, 32767, -65536, 1103515245, -12345, 1 << 30};
        // A GOLDEN one: in HOUR 12 or later; an UNCLE of FIGURE 1 through the last of seven: in an
        // odd HOUR; six BRIDES of one mouth: one an HOUR.
        AcrossTheGap golden = told("p01;p00;d400;");
        AcrossTheGap uncle = told("p00;p00;p00;p00;p00;p00;p01;d110;");
        AcrossTheGap brides = told("p63;d200;d201;d202;d203;d204;d205;p00;p00;");
        for (int z : seeds) {
            int[] hours = drawn(z, 2 * 7 * 20);
            int late = 0;
            int odd = 0;
            int wide = 0;
            for (int day = 0; day < 20; day++) {
                late += Math.max(hours[4 * day], hours[4 * day + 1]) >= 12 ? 1 : 0;
                boolean isOdd = hours[14 * day + 12] != hours[14 * day + 13] || hours[14 * day + 12] % 2 == 1;
                odd += isOdd ? 2 : 0;
                wide += 2 * Math.min(6, 1 + Math.abs(hours[6 * day] - hours[6 * day + 1]));
                due(golden.lots(day + 1, z, 0), late);
                due(uncle.lots(day + 1, z, 0), odd);
                due(brides.lots(day + 1, z, 0), wide);
            }
        }
    }

    private static void lots() {
        about("LOTS with a seed z: n DAYS (1 .. 20)");
        AcrossTheGap x = told("p01;p00;d200;k19;o00000;");
        about("(Each DAY as all KNOW now.)");
        due(x.lots(1, 3, 0), 2);
        due(x.lots(20, 3, 0), 40);
        about(56, "LOTS: ALL (what 0), how often (1). -4; -6 20; -2.");
        due(x.lots(0, 3, 0), -4);
        due(x.lots(MIN, 3, 0), -4);
        due(x.lots(21, 3, 0), -6);
        due(x.lots(MAX, 3, 0), -6);
        due(x.lots(20, 3, -1), -2);
        due(x.lots(20, 3, 2), -2);
        about("how often there is a FACT that all of PEOPLE KNOW at the end (not, if there are none)");
        due(x.lots(20, 3, 1), 0);
        x.learns(0, 0);
        due(x.lots(20, 3, 1), 20);
        x.shut(0);
        due(x.lots(20, 3, 1), 0);
        due(x.lots(20, 3, 0), 40);
        due(told("p00;k09;").lots(1, 0, 1), 1);
        due(told("p00;").lots(1, 0, 1), 0);
        due(new AcrossTheGap().lots(20, MAX, 0), 0);
        due(new AcrossTheGap().lots(20, MAX, 1), 0);
        due(told("d000;").lots(20, MIN, 1), 0);
        about("two DRAWS below 24, from the lesser to the greater, and no other HOUR");
        // z 0 draws 0 and 12 for the first DAY: the second GOLDEN one would speak in 13.
        AcrossTheGap open = told("p03;p00;d400;d401;o00023;");
        due(open.all(), 2);
        due(open.lots(1, 0, 0), 1);
        due(open.person(0, 1), bits(24) - 1);
        due(open.count(3), 24);
    }
}
