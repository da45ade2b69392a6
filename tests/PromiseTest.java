/**
 * Each promise by itself, with answers that were worked out by hand from the document:
 * ordinary calls, the edges that it names, and each refusal in its order.
 */
public final class PromiseTest extends Check {
    private static void promise(int number) {
        startAt("promise " + number);
    }

    /** Three at the table; a DEAD who tells FACT 1 speaks through 0 in HOURS 5 and 6. */
    private static AcrossTheGap three() {
        return told("p01;p00;p00;d001;o00506;");
    }

    public static void main(String[] args) {
        newObject();
        letters();
        faults();
        stored();
        changed();
        takenBack();
        kinds();
        hours();
        dayOfThree();
        twoThroughOne();
        neverAndJust();
        soonestOpeningSeat();
        canShamWho();
        questionsQuarrelsSilent();
        coldsAndLists();
        daysAndSpreads();
        neededLoudestNarrow();
        keyHalfTurnedTwin();
        keeperOpeningsDinner();
        shareBridgeHeir();
        secretSynod();
        rows();
        lots();
        images();
        counts();
        end("PromiseTest");
    }

    private static void newObject() {
        promise(1);
        AcrossTheGap x = new AcrossTheGap();
        for (int what = 0; what <= 7; what++) {
            due(x.count(what), 0);
        }
        for (int what = 11; what <= 16; what++) {
            due(x.count(what), 0);
        }
        due(x.person(0, 0), -1);
        due(x.dead(0, 0), -1);
        due(x.all(), 0);
        due(x.restore(), -3);
        due(x.back(), -3);
        due(x.count(13), 2);
    }

    private static void letters() {
        promise(2);
        AcrossTheGap x = new AcrossTheGap();
        due(x.feed(-1), -4);
        due(x.feed(MIN), -4);
        due(x.feed(256), -6);
        due(x.feed(MAX), -6);
        due(x.count(5), 0);
        due(x.feed(0), 1);
        due(x.feed(255), 2);
        for (int i = 3; i <= 96; i++) {
            due(x.feed('p'), i);
        }
        due(x.feed('p'), -6);
        due(x.feed(-1), -4);
        due(x.feed(256), -6);
        due(x.count(5), 96);
        due(x.family(), -1000);
        due(x.count(5), 0);
        due(x.feed('p'), 1);
        due(x.count(14), 3);
        due(x.count(16), 4);
    }

    private static void faults() {
        promise(3);
        AcrossTheGap x = new AcrossTheGap();
        String[] texts = {"", ";", "x", "p", "p6", "p63", "p63x", "p6x;", "px3;", "p63;;", "p63; ", "p63;p",
            "d", "d1", "d12", "d123", "d1234", "d12;", "o0010", "o00102", "o000102;", "c0010:", "s", "s;", "s12;", "k0",
            "k0;", "k012;", "P63;", "p/3;", "p:3;", "k0" + (char) 178 + ";", "p63;k00;q", "p99;p"};
        int[] places = {0, 0, 0, 1, 2, 3, 3, 2, 1, 4, 4, 5,
            1, 2, 3, 4, 4, 3, 5, 6, 6, 5, 1, 1, 2, 2,
            2, 3, 0, 1, 1, 2, 8, 5};
        for (int i = 0; i < texts.length; i++) {
            due(tell(x, texts[i]), -1000 - places[i]);
            due(x.count(5), 0);
            due(x.count(0), 0);
        }
        String[] senseless = {"p64;", "p99;", "d600;", "o00000;", "c00000;", "s0;", "k00;", "p00;p64;", "p00;s1;",
            "p00;o00100;", "p00;o00024;", "p00;o02424;", "p00;c00100;", "p00;c00099;", "p00;k10;", "p00;o10001;",
            "p00;p00;p00;p00;p00;p00;p00;p00;", "d000;d000;d000;d000;d000;d000;d000;", "s0;p00;", "p00;k00;d700;p99;"};
        int[] starts = {0, 0, 0, 0, 0, 0, 0, 4, 4, 4, 4, 4, 4, 4, 4, 4, 28, 30, 0, 8};
        for (int i = 0; i < senseless.length; i++) {
            due(tell(x, senseless[i]), -2000 - starts[i]);
            due(x.count(5), 0);
            due(x.count(0) + x.count(1) + x.count(2) + x.count(3) + x.count(4), 0);
        }
        for (int what = 11; what <= 16; what++) {
            due(x.count(what), 0);
        }
        // A letter that cannot stand there goes ahead of a STATEMENT that makes no sense.
        due(tell(x, "p99;p0"), -1006);
        due(tell(x, "p63;p05;d123;o00023;c00511;o10405;o10606;c10505;s1;k09;k19;k19;s0;s0;"), 14);
        due(x.person(0, 0), 63);
        due(x.person(1, 0), 5);
        due(x.person(0, 1), 0xffffff & ~0xfe0);
        due(x.person(1, 1), bits(4, 6));
        due(x.person(0, 2), 0);
        due(x.person(1, 2), 1);
        due(x.person(0, 3), 512);
        due(x.person(1, 3), 512);
        due(x.dead(0, 0), 1);
        due(x.dead(0, 1), 2);
        due(x.dead(0, 2), 3);
        // What came ahead, in an earlier FAMILY, is there: seven and six are all that have room.
        due(tell(x, "p00;p00;p00;p00;p00;d000;d000;d000;d000;d599;s6;"), 11);
        due(tell(x, "p00;"), -2000);
        due(tell(x, "s0;d000;"), -2003);
        due(x.count(2), 2);
        due(x.person(0, 2), 0);
        due(x.dead(5, 0), 5);
        due(x.dead(5, 1), 9);
        // With a FAULT what can be taken back stays; without it none does.
        due(x.shut(0), 1);
        due(tell(x, "x"), -1000);
        due(tell(x, "s7;"), -2000);
        due(x.count(7), 1);
        due(tell(x, "s0;"), 1);
        due(x.count(7), 0);
        // 96 letters can be told, and one FAMILY of them is one.
        AcrossTheGap y = told("p00;");
        StringBuilder most = new StringBuilder();
        for (int i = 0; i < 32; i++) {
            most.append("s0;");
        }
        due(tell(y, most.toString()), 32);
        due(y.person(0, 2), 0);
        due(tell(y, most.toString().substring(3) + "p99"), -1096);
        due(tell(y, most.toString().substring(3) + "s5;"), -2093);
    }

    private static void stored() {
        AcrossTheGap x = told("p07;p63;d123;d599;o12222;o10000;s1;k19;k10;");
        promise(4);
        due(x.person(0, 0), 7);
        due(x.person(1, 0), 63);
        due(x.person(0, 1), 0);
        due(x.person(1, 1), bits(0, 22));
        due(x.person(0, 2), 0);
        due(x.person(1, 2), 1);
        due(x.person(0, 3), 0);
        due(x.person(1, 3), 513);
        due(x.person(2, 0), -1);
        due(x.person(-1, 0), -1);
        due(x.person(2, 9), -1);
        due(x.person(MIN, MIN), -1);
        due(x.person(MAX, 0), -1);
        due(x.person(0, 4), -2);
        due(x.person(0, -1), -2);
        due(x.person(0, MAX), -2);
        promise(5);
        due(x.dead(0, 0), 1);
        due(x.dead(0, 1), 2);
        due(x.dead(0, 2), 3);
        due(x.dead(1, 0), 5);
        due(x.dead(1, 1), 9);
        due(x.dead(1, 2), 9);
        due(x.dead(2, 0), -1);
        due(x.dead(-1, 7), -1);
        due(x.dead(0, 3), -2);
        due(x.dead(0, -1), -2);
        promise(6);
        AcrossTheGap y = new AcrossTheGap();
        due(y.comes(-1), -4);
        due(y.comes(64), -6);
        for (int p = 0; p < 7; p++) {
            due(y.comes(9 * p), p);
            due(y.person(p, 0), 9 * p);
            due(y.person(p, 1) + y.person(p, 2) + y.person(p, 3), 0);
        }
        due(y.comes(0), -6);
        due(y.comes(-1), -4);
        due(y.comes(MAX), -6);
        due(y.count(0), 7);
        AcrossTheGap z = new AcrossTheGap();
        due(z.comes(63), 0);
        promise(7);
        due(y.dies(-1, -1, -1), -2);
        due(y.dies(6, 0, 0), -2);
        due(y.dies(0, -1, 99), -4);
        due(y.dies(0, 99, -1), -4);
        due(y.dies(0, 10, 0), -6);
        due(y.dies(0, 0, 10), -6);
        for (int d = 0; d < 6; d++) {
            due(y.dies(d, 9 - d, d), d);
            due(y.dead(d, 0), d);
            due(y.dead(d, 1), 9 - d);
            due(y.dead(d, 2), d);
        }
        due(y.dies(0, 9, 9), -6);
        due(y.dies(0, 9, -1), -4);
        due(y.dies(7, 9, 9), -2);
        due(y.count(1), 6);
        due(z.dies(5, 9, 9), 0);
    }

    private static void changed() {
        AcrossTheGap x = told("p00;p63;d123;");
        promise(8);
        due(x.open(0, 0), 1);
        due(x.open(0, 23), 1);
        due(x.person(0, 1), bits(0, 23));
        due(x.open(0, 0), 0);
        due(x.person(0, 1), bits(23));
        due(x.person(1, 1), 0);
        due(x.open(2, 0), -1);
        due(x.open(-1, 0), -1);
        due(x.open(0, 24), -1);
        due(x.open(0, -1), -1);
        due(x.open(0, 32), -1);
        due(x.count(7), 3);
        promise(9);
        due(x.shut(1), 1);
        due(x.person(1, 2), 1);
        due(x.person(0, 2), 0);
        due(x.shut(1), 0);
        due(x.person(1, 2), 0);
        due(x.shut(2), -1);
        due(x.shut(-1), -1);
        due(x.shut(32), -1);
        promise(10);
        due(x.kin(0, 0), 1);
        due(x.person(0, 0), 1);
        due(x.kin(1, 0), 0);
        due(x.person(1, 0), 62);
        due(x.kin(0, 0), 0);
        due(x.kin(0, 1), -1);
        due(x.kin(0, -1), -1);
        due(x.kin(2, 0), -1);
        due(x.kin(-1, 0), -1);
        due(x.person(1, 0), 62);
        promise(11);
        due(x.leans(0, 9), 2);
        due(x.leans(0, 0), 9);
        due(x.leans(0, 0), 0);
        due(x.dead(0, 1), 0);
        due(x.leans(1, -1), -1);
        due(x.leans(-1, 99), -1);
        due(x.leans(0, -1), -4);
        due(x.leans(0, 10), -6);
        due(x.dead(0, 1), 0);
        promise(12);
        due(x.learns(1, 9), 1);
        due(x.learns(1, 9), 0);
        due(x.learns(1, 0), 1);
        due(x.person(1, 3), 513);
        due(x.person(0, 3), 0);
        due(x.learns(2, 0), -1);
        due(x.learns(-1, 0), -1);
        due(x.learns(0, 10), -1);
        due(x.learns(0, -1), -1);
        promise(13);
        AcrossTheGap y = three();
        due(y.passes(), 2);
        due(y.person(0, 3), 0);
        due(y.person(1, 3), 2);
        due(y.person(2, 3), 2);
        due(y.passes(), 0);
        due(y.heard(1, 1), 0);
        due(y.count(4), 2);
        // A GOLDEN one who finds nobody to tell does not hold her tongue on the first DAY.
        AcrossTheGap g = told("p01;p00;d403;o01213;");
        due(g.spoke(0), 1);
        due(g.passes(), 1);
        due(g.spoke(0), 0);
    }

    private static void takenBack() {
        promise(14);
        AcrossTheGap x = told("p00;p00;d000;");
        due(x.back(), -3);
        due(x.open(1, 4), 1);
        due(x.shut(0), 1);
        due(x.kin(1, 0), 1);
        due(x.leans(0, 7), 0);
        due(x.leans(0, 7), 7);
        due(x.leans(0, 10), -6);
        due(x.kin(1, 9), -1);
        due(x.count(7), 5);
        due(x.back(), 4);
        due(x.dead(0, 1), 7);
        due(x.back(), 3);
        due(x.dead(0, 1), 0);
        due(x.person(1, 0), 1);
        due(x.back(), 2);
        due(x.person(1, 0), 0);
        due(x.person(0, 2), 1);
        due(x.back(), 1);
        due(x.person(0, 2), 0);
        due(x.person(1, 1), 16);
        due(x.back(), 0);
        due(x.person(1, 1), 0);
        due(x.back(), -3);
        due(x.count(13), 2);
        for (int h = 0; h < 11; h++) {
            due(x.open(0, h), 1);
            due(x.count(7), Math.min(8, h + 1));
        }
        for (int left = 7; left >= 0; left--) {
            due(x.back(), left);
        }
        due(x.back(), -3);
        due(x.person(0, 1), 7);
        // More than eight of all sorts: the latest eight come back, each as it was.
        AcrossTheGap y = told("p00;p00;p00;d000;d010;");
        due(y.open(2, 8), 1);
        due(y.shut(2), 1);
        due(y.kin(2, 1), 1);
        due(y.leans(1, 5), 1);
        due(y.open(1, 7), 1);
        due(y.shut(1), 1);
        due(y.kin(1, 1), 1);
        due(y.leans(0, 6), 0);
        due(y.open(0, 9), 1);
        due(y.shut(0), 1);
        due(y.kin(0, 0), 1);
        due(y.back(), 7);
        due(y.person(0, 0), 0);
        due(y.back(), 6);
        due(y.person(0, 2), 0);
        due(y.back(), 5);
        due(y.person(0, 1), 0);
        due(y.dead(0, 1), 6);
        due(y.back(), 4);
        due(y.dead(0, 1), 0);
        due(y.back(), 3);
        due(y.person(1, 0), 0);
        due(y.back(), 2);
        due(y.person(1, 2), 0);
        due(y.back(), 1);
        due(y.person(1, 1), 0);
        due(y.dead(1, 1), 5);
        due(y.back(), 0);
        due(y.dead(1, 1), 1);
        due(y.back(), -3);
        due(y.person(2, 0), 2);
        due(y.person(2, 1), 256);
        due(y.person(2, 2), 1);
        // What leaves none, and what, refused, leaves all.
        x.shut(0);
        due(x.comes(-1), -4);
        due(x.dies(0, 0, 10), -6);
        due(x.learns(0, 10), -1);
        due(x.restore(), -3);
        x.image();
        x.feed('x');
        x.row(3);
        x.clear();
        due(x.family(), -1000);
        due(x.count(7), 1);
        due(x.comes(0), 2);
        due(x.count(7), 0);
        x.shut(0);
        due(x.dies(0, 0, 0), 1);
        due(x.back(), -3);
        x.shut(0);
        due(x.learns(0, 0), 1);
        due(x.count(7), 0);
        x.shut(0);
        due(x.learns(0, 0), 0);
        due(x.count(7), 0);
        x.shut(0);
        due(x.passes(), 0);
        due(x.count(7), 0);
        x.shut(0);
        due(tell(x, "s0;"), 1);
        due(x.count(7), 0);
        x.shut(0);
        due(x.restore(), 2);
        due(x.count(7), 0);
        due(x.back(), -3);
    }

    private static void kinds() {
        promise(16);
        // DEAD: from FIGURE modulo how many there are on, round; KIN, OPEN, not SHUT.
        AcrossTheGap x = told("p01;p01;p01;d040;o00023;o10023;o20023;");
        due(x.through(0, 0), 1);
        x.shut(1);
        due(x.through(0, 0), 2);
        x.kin(2, 0);
        due(x.through(0, 23), 0);
        x.open(0, 23);
        due(x.through(0, 23), -9);
        due(x.through(0, 22), 0);
        x.leans(0, 9);
        due(x.through(0, 22), 0);
        x.shut(0);
        due(x.through(0, 0), -9);
        due(x.through(1, 0), -1);
        due(x.through(-1, 0), -1);
        due(x.through(0, 24), -1);
        due(x.through(0, -1), -1);
        // UNCLE and QUARREL: HOUR and FIGURE together even.
        AcrossTheGap u = told("p01;p02;d110;d320;o00023;o10023;");
        due(u.through(0, 0), -9);
        due(u.through(0, 1), 0);
        due(u.through(0, 2), -9);
        due(u.through(1, 0), 1);
        due(u.through(1, 1), -9);
        // By numbers: the lower one has the place; the second none, where he has but this one.
        AcrossTheGap n = told("p03;p00;d000;d000;o00023;");
        due(n.through(0, 3), 0);
        due(n.through(1, 3), -9);
        AcrossTheGap n2 = told("p03;p03;d010;d010;o00023;o10023;");
        due(n2.through(0, 3), 1);
        due(n2.through(1, 3), 0);
        // A QUARREL as the second, not as the third; an UNCLE not as the second.
        AcrossTheGap q = told("p15;p00;d000;d300;d300;d100;o00023;");
        due(q.speak(0, 0), 3);
        due(q.speak(0, 1), 1);
        AcrossTheGap q2 = told("p03;p00;d300;d000;o00023;");
        due(q2.speak(0, 0), 1);
        due(q2.speak(0, 1), 2);
        // A BRIDE speaks while somebody beside does not know it as the HOUR begins.
        AcrossTheGap b = told("p01;p00;d203;o00323;");
        due(b.spoke(0), 1);
        due(b.through(0, 3), 0);
        due(b.through(0, 4), -9);
        AcrossTheGap b2 = told("p03;p00;d003;d203;o00023;");
        due(b2.through(1, 0), -9);
        AcrossTheGap b3 = told("p01;p02;p00;d003;d213;o00000;o10023;");
        due(b3.through(0, 0), 0);
        due(b3.through(1, 0), 1);
        due(b3.through(1, 1), -9);
        // Through one alone nobody hears, and a BRIDE has nobody to tell.
        AcrossTheGap alone = told("p07;d003;d203;d403;o00023;");
        due(alone.spoke(0), 24);
        due(alone.spoke(1), 0);
        due(alone.spoke(2), 0);
        due(alone.all(), 0);
        AcrossTheGap alone2 = told("p01;d203;o00023;");
        due(alone2.spoke(0), 0);
        // A BRIDE goes by those beside the one, not by the one himself.
        AcrossTheGap b4 = told("p00;p01;p00;p00;p01;d212;k02;k22;o10023;o40023;");
        due(b4.through(0, 0), 4);
        due(b4.through(0, 1), -9);
        due(b4.knows(3, 1), 4);
        due(b4.knows(1, 24), 0);
        // GOLDEN: not ahead of 12.
        AcrossTheGap g = told("p01;p00;d403;o00023;");
        due(g.through(0, 11), -9);
        due(g.through(0, 12), 0);
        due(g.through(0, 13), -9);
        // HISSING: whether KIN or not, but OPEN and not SHUT, and nobody else's mouth.
        AcrossTheGap s = told("p00;p01;p00;d000;d513;o10002;o20101;");
        due(s.through(1, 0), -9);
        due(s.through(0, 0), 1);
        due(s.through(1, 1), 2);
        due(s.through(1, 3), -9);
        s.shut(1);
        due(s.through(1, 0), -9);
        s.shut(1);
        s.kin(1, 0);
        due(s.through(1, 0), 1);
        // With nobody at the table nobody speaks.
        AcrossTheGap none = told("d000;d510;");
        due(none.through(1, 5), -9);
        due(none.all(), 0);
    }

    private static void hours() {
        promise(17);
        AcrossTheGap x = told("p03;p04;p00;d001;d302;d010;o00405;o10505;");
        due(x.speak(0, 3), 0);
        due(x.speak(0, 4), 3);
        due(x.speak(0, 5), 1);
        due(x.speak(1, 4), 0);
        due(x.speak(1, 5), 4);
        due(x.speak(2, 5), 0);
        due(x.speak(-1, 3), 0);
        due(x.speak(-1, 4), 2);
        due(x.speak(-1, 5), 2);
        due(x.speak(-2, 5), -1);
        due(x.speak(3, 5), -1);
        due(x.speak(-1, 24), -1);
        due(x.speak(0, -1), -1);
        due(x.speak(MIN, 0), -1);
        due(x.count(11), 5);
    }

    private static void dayOfThree() {
        AcrossTheGap x = three();
        promise(15);
        due(x.knows(1, 0), 0);
        due(x.knows(1, 5), 0);
        due(x.knows(1, 6), 2);
        due(x.knows(2, 6), 2);
        due(x.knows(2, 24), 2);
        due(x.knows(0, 24), 0);
        due(x.knows(3, 25), -1);
        due(x.knows(-1, 0), -1);
        due(x.knows(0, -1), -4);
        due(x.knows(0, 25), -6);
        due(x.person(1, 3), 0);
        AcrossTheGap five = told("p01;p00;p00;p00;p00;d007;o02323;");
        due(five.knows(1, 24), 128);
        due(five.knows(4, 24), 128);
        due(five.knows(2, 24) + five.knows(3, 24) + five.knows(0, 24), 0);
        due(five.knows(1, 23), 0);
        AcrossTheGap pair = told("p00;p01;d007;o10000;");
        due(pair.knows(0, 1), 128);
        due(pair.knows(1, 1), 0);
        promise(19);
        due(x.heard(1, 1), 6);
        due(x.heard(0, 1), -9);
        due(x.heard(1, 2), -9);
        due(x.heard(3, 1), -1);
        due(x.heard(-1, 1), -1);
        due(x.heard(0, 10), -1);
        due(x.heard(0, -1), -1);
        due(five.heard(4, 7), 24);
        five.learns(4, 7);
        due(five.heard(4, 7), 0);
        promise(20);
        due(x.spoke(0), 2);
        due(x.spoke(1), -1);
        due(x.spoke(-1), -1);
        due(five.spoke(0), 1);
        promise(21);
        AcrossTheGap t = told("p01;p02;p00;d004;d114;o00506;o10009;k29;");
        due(t.told(4, 0), 7);
        due(t.told(4, 1), 3);
        due(t.told(9, 0), 0);
        due(t.told(9, 1), 1);
        due(t.told(3, 1), 0);
        due(t.told(10, 0), -1);
        due(t.told(-1, 5), -1);
        due(t.told(4, 2), -2);
        due(t.told(4, -1), -2);
        promise(22);
        due(x.all(), 2);
        due(t.all(), 4);
        due(new AcrossTheGap().all(), 0);
        due(x.count(4), 0);
    }

    private static void twoThroughOne() {
        promise(18);
        AcrossTheGap x = told("p03;p00;d000;d310;o00408;");
        due(x.two(0), 5);
        due(x.two(1), 2);
        due(x.two(2), -2);
        due(x.two(-1), -2);
        AcrossTheGap early = told("p03;p00;d000;d300;o00003;");
        due(early.two(0), 0);
        due(early.two(1), 2);
        AcrossTheGap apart = told("p01;p02;d000;d310;o00408;o10408;");
        due(apart.two(0), -9);
        due(apart.two(1), 0);
    }

    private static void neverAndJust() {
        promise(23);
        // FACT 1 comes to 1 through 0 and through 2: both must be SHUT.
        AcrossTheGap x = told("p01;p00;p01;p00;d001;d021;o00101;o20202;k39;");
        due(x.never(1, 1, 0), 5);
        due(x.never(1, 1, 1), 2);
        due(x.never(3, 1, 0), 5);
        due(x.never(0, 1, 0), 0);
        due(x.never(0, 1, 1), 0);
        due(x.never(3, 9, 0), -9);
        due(x.never(3, 9, 1), -9);
        x.shut(0);
        due(x.never(1, 1, 0), 4);
        due(x.never(1, 1, 1), 1);
        due(x.count(2), 1);
        due(x.never(4, 0, 9), -1);
        due(x.never(-1, 0, 0), -1);
        due(x.never(0, 10, 0), -1);
        due(x.never(0, -1, 0), -1);
        due(x.never(0, 0, 2), -2);
        due(x.never(0, 0, -1), -2);
        // SHUT one, and the DEAD goes on to the next: it must be that by which nobody beside hears.
        AcrossTheGap y = told("p01;p00;p01;p00;p00;d001;o00101;o20101;");
        due(y.never(4, 1, 0), 1);
        due(y.never(1, 1, 0), 5);
        promise(24);
        AcrossTheGap j = told("p01;p00;p01;p00;p00;d001;o00101;o20101;s1;");
        due(j.just(1, bits(1, 4)), 0);
        due(j.just(1, bits(1, 3)), 1);
        due(j.just(1, 0), 5);
        due(j.just(1, bits(0)), -9);
        due(j.just(2, 0), 0);
        due(j.count(2), 1);
        due(j.just(10, -1), -1);
        due(j.just(-1, 99), -1);
        due(j.just(1, -1), -4);
        due(j.just(1, MIN), -4);
        due(j.just(1, 32), -6);
        due(j.just(1, MAX), -6);
        due(j.just(1, 31), -9);
        due(new AcrossTheGap().just(0, 0), 0);
        due(new AcrossTheGap().just(0, 1), -6);
    }

    private static void soonestOpeningSeat() {
        promise(25);
        AcrossTheGap x = told("p01;p00;p01;p00;d001;o00909;");
        due(x.heard(1, 1), 10);
        due(x.soonest(1, 1), 0);
        x.leans(0, 1);
        due(x.soonest(1, 1), 0);
        x.kin(0, 0);
        due(x.heard(1, 1), -9);
        due(x.soonest(1, 1), 2);
        x.shut(2);
        due(x.soonest(1, 1), 2);
        due(x.soonest(0, 1), -9);
        x.learns(1, 1);
        due(x.soonest(1, 1), -9);
        due(x.person(2, 1), 0);
        due(x.soonest(4, 0), -1);
        due(x.soonest(-1, 0), -1);
        due(x.soonest(0, 10), -1);
        due(x.soonest(0, -1), -1);
        // 0's DEAD keeps his mouth but in HOUR 23, when it has another: HEARD behind the last.
        AcrossTheGap last = told("p03;p00;p01;p00;d020;d001;o22323;");
        due(last.heard(1, 1), -9);
        due(last.soonest(1, 1), 0);
        // As soon as now is not sooner.
        AcrossTheGap same = told("p01;p00;d001;o00000;");
        due(same.soonest(1, 1), -9);
        promise(26);
        AcrossTheGap o = told("p02;p01;p00;d001;d512;o10404;o10707;");
        // The HISSING one has a mouth in whichever HOUR 0 is OPEN.
        due(o.opening(0, 0), 0);
        due(o.opening(0, 1), 4);
        due(o.all(), 2);
        o.shut(0);
        due(o.opening(0, 0), 0);
        due(o.opening(0, 1), 2);
        AcrossTheGap golden = told("p01;p00;p00;d401;d301;o00000;");
        due(golden.opening(0, 0), 12);
        due(golden.opening(0, 1), 2);
        due(golden.person(0, 1), 1);
        due(o.person(0, 1), 0);
        due(o.opening(3, 9), -1);
        due(o.opening(-1, 0), -1);
        due(o.opening(0, 2), -2);
        due(o.opening(0, -1), -2);
        promise(27);
        due(new AcrossTheGap().seat(), -9);
        // 1, who KNOWS it, is told it beside 0; changed with 3, 0 sits between two who do not.
        AcrossTheGap s = told("p01;p00;p00;p00;d001;k11;o00000;");
        due(s.all(), 2);
        due(s.seat(), 3);
        due(s.person(0, 0), 1);
        due(s.person(1, 3), 2);
        AcrossTheGap s2 = told("p01;p00;p00;p00;d001;o00000;");
        due(s2.seat(), -9);
        AcrossTheGap s3 = told("p01;p00;p00;p00;p00;d021;k31;k41;o00000;");
        due(s3.all(), 3);
        due(s3.seat(), 1);
        AcrossTheGap s4 = told("p00;p01;p01;p00;d021;k31;s1;o10000;o20000;");
        due(s4.all(), 2);
        due(s4.seat(), 3);
        // SHUT goes with the one who is so.
        AcrossTheGap s5 = told("p01;p01;p00;p00;p00;d001;s0;k21;o00000;o10000;");
        due(s5.all(), 2);
        due(s5.seat(), 1);
        AcrossTheGap s6 = told("p01;p01;p00;p00;p00;d001;s1;k41;o00000;o10000;");
        due(s6.all(), 2);
        due(s6.seat(), 1);
        // Just where 2, who KNOWS it, is the first by FIGURE do both others hear.
        due(told("p01;p01;p01;d011;k21;o00000;o10000;o20000;").seat(), 12);
    }

    private static void canShamWho() {
        promise(28);
        AcrossTheGap x = told("p03;p04;p00;d001;d302;d013;o00405;o10505;");
        due(x.can(0, 1, 4), 1);
        due(x.can(0, 2, 4), 1);
        due(x.can(0, 2, 5), 0);
        due(x.can(1, 3, 5), 1);
        due(x.can(1, 3, 4), 0);
        due(x.can(1, 1, 5), 0);
        due(x.can(3, 0, 0), -1);
        due(x.can(-1, 0, 0), -1);
        due(x.can(0, 10, 0), -1);
        due(x.can(0, -1, 0), -1);
        due(x.can(0, 0, 24), -1);
        due(x.can(0, 0, -1), -1);
        promise(29);
        due(x.sham(0), -9);
        rowOf(x, 10, 10, 10, 10, 2, 1);
        due(x.sham(0), -9);
        due(x.count(6), 6);
        due(x.sham(2), 4);
        rowOf(x, 10, 10, 10, 10, 1, 2);
        due(x.sham(0), 5);
        rowOf(x, 10, 10, 10, 10, 10);
        due(x.sham(0), 4);
        due(x.sham(1), -9);
        rowOf(x, 0);
        due(x.sham(0), 0);
        rowOf(x, 11);
        due(x.sham(0), -3);
        x.turned();
        rowOf(x, 10);
        x.row(12);
        due(x.clear(), 2);
        due(x.row(10), 1);
        due(x.sham(0), -9);
        rowOf(x, 10, 10, 10, 10, 1, 1);
        x.turned();
        due(x.sham(0), -9);
        rowOf(x, 10, 11);
        due(x.sham(0), -3);
        due(x.sham(3), -1);
        due(x.sham(-1), -1);
        due(x.count(6), 2);
        promise(30);
        due(x.who(0, 2), 1);
        due(x.who(0, 1), 2);
        due(x.who(0, 0), 4);
        due(x.who(1, 1), 4);
        due(x.who(1, 0), 3);
        due(x.who(2, 0), 7);
        due(x.who(0, 24), 0);
        due(x.who(3, -1), -1);
        due(x.who(-1, 25), -1);
        due(x.who(0, -1), -4);
        due(x.who(0, 25), -6);
        due(told("p01;d000;o00023;").who(0, 24), 1);
    }

    private static void questionsQuarrelsSilent() {
        promise(31);
        due(new AcrossTheGap().questions(), 0);
        due(told("d003;d103;d205;d303;d505;d009;").questions(), bits(0, 2, 5));
        due(told("d003;d003;").questions(), 1);
        due(told("d000;d001;d000;").questions(), 3);
        promise(32);
        AcrossTheGap x = told("p63;p63;d300;d300;d310;d311;d000;o00023;o10015;");
        // In even HOURS 0 and 1 (through 0), in odd ones 2 and 3 (through 1, to 15; through 0 behind).
        due(x.quarrels(0), 24);
        due(x.quarrels(1), bits(0, 2));
        due(x.quarrels(2), -2);
        due(x.quarrels(-1), -2);
        due(told("p01;p02;d000;d300;o00000;o10000;").quarrels(0), 0);
        due(told("p01;p02;d000;d300;o00000;o10000;").quarrels(1), 0);
        AcrossTheGap y = told("p02;p04;d100;d300;d310;o00023;o10023;");
        due(y.quarrels(0), 0);
        due(y.quarrels(1), 0);
        AcrossTheGap apart = told("p01;p02;d300;d300;o00005;o10423;");
        due(apart.quarrels(0), 1);
        due(apart.quarrels(1), 1);
        // Two QUARRELS that only one of a third keeps from speaking together.
        AcrossTheGap three = told("p07;p00;d300;d300;d300;o00000;");
        due(three.quarrels(0), 1);
        due(three.quarrels(1), 3);
        promise(33);
        AcrossTheGap s = told("p01;p00;d000;o00505;o01112;o01818;");
        due(s.silent(0), 20);
        due(s.silent(1), 5);
        due(s.silent(2), 0);
        s.open(0, 0);
        due(s.silent(0), 19);
        due(s.silent(1), 5);
        due(s.silent(2), 6);
        due(s.silent(3), -2);
        due(s.silent(-1), -2);
        AcrossTheGap never = told("p01;d000;o00023;");
        due(never.silent(0), 0);
        due(never.silent(1), 0);
        due(never.silent(2), -9);
        AcrossTheGap late = told("p01;d000;o00022;");
        due(late.silent(1), 1);
        due(late.silent(2), 23);
    }

    private static void coldsAndLists() {
        promise(34);
        AcrossTheGap x = told("p01;p00;p01;p00;d001;o00101;o20202;k39;");
        // 1 hears unless both 0 and 2 are ill: 1 less 1 in 9, and 1 less 1 in 4.
        due(x.colds(1, 1, 3, 0), 8);
        due(x.colds(1, 1, 3, 1), 9);
        due(x.colds(1, 1, 2, 0), 3);
        due(x.colds(1, 1, 2, 1), 4);
        due(x.colds(1, 1, 20, 0), 399);
        due(x.colds(1, 1, 20, 1), 400);
        due(x.colds(3, 9, 7, 0), 1);
        due(x.colds(3, 9, 7, 1), 1);
        due(x.colds(0, 1, 7, 0), 0);
        due(x.colds(0, 1, 7, 1), 1);
        x.shut(0);
        due(x.colds(1, 1, 5, 0), 4);
        due(x.colds(1, 1, 5, 1), 5);
        x.shut(2);
        due(x.colds(1, 1, 5, 0), 0);
        due(x.colds(1, 1, 5, 1), 1);
        due(x.colds(4, 0, 1, 9), BIG + 1);
        due(x.colds(-1, 0, 2, 0), BIG + 1);
        due(x.colds(0, 10, 2, 0), BIG + 1);
        due(x.colds(0, -1, 2, 0), BIG + 1);
        due(x.colds(0, 0, 1, 9), BIG + 4);
        due(x.colds(0, 0, MIN, 0), BIG + 4);
        due(x.colds(0, 0, 21, 9), BIG + 6);
        due(x.colds(0, 0, 20, 2), BIG + 2);
        due(x.colds(0, 0, 2, -1), BIG + 2);
        due(x.count(11) + 10 * x.count(12) + 100 * x.count(14) + 1000 * x.count(16), 1224);
        // 0 hears if he is ill and 1 is not, or if all but 6 are: 19 in 400 and 19 in 20 to the 7th.
        AcrossTheGap seven = told("p01;p01;p01;p01;p01;p01;p01;d001;", "o00000;o10000;o20000;o30000;o40000;o50000;o60000;");
        due(seven.colds(0, 1, 20, 0), 60800019L);
        due(seven.colds(0, 1, 20, 1), 1280000000L);
        promise(35);
        AcrossTheGap l = told("p07;p00;p00;d001;d313;d304;o00208;k14;");
        due(l.list(1, 0), bits(1, 3));
        due(l.list(1, 1), 4);
        due(l.list(2, 0), bits(1, 3, 4));
        due(l.list(2, 1), 4);
        due(l.list(0, 0), 0);
        due(l.list(0, 1), -9);
        l.learns(0, 2);
        due(l.list(0, 0), 0);
        due(l.list(0, 1), -9);
        AcrossTheGap nought = told("p01;p00;d000;o00909;");
        due(nought.list(1, 0), 1);
        due(nought.list(1, 1), 10);
        due(l.list(3, 9), -1);
        due(l.list(-1, 0), -1);
        due(l.list(0, 2), -2);
        due(l.list(0, -1), -2);
    }

    private static void daysAndSpreads() {
        // The BRIDE of FACT 1 keeps the mouth of 0 for a DAY's one HOUR; behind it the DEAD has it.
        AcrossTheGap x = told("p03;p00;p00;d201;d002;o00505;");
        promise(36);
        due(x.days(-1), 2);
        due(x.days(0), 0);
        due(x.days(1), 6);
        due(x.days(2), 6);
        due(x.count(4), 0);
        due(x.days(3), -1);
        due(x.days(-2), -1);
        due(x.days(MIN), -1);
        promise(44);
        due(x.spreads(1, 1), 1);
        due(x.spreads(1, 2), 2);
        due(x.spreads(0, 2), -9);
        due(x.spreads(1, 3), -9);
        x.learns(0, 3);
        due(x.spreads(0, 3), 0);
        due(x.spreads(3, 0), -1);
        due(x.spreads(-1, 0), -1);
        due(x.spreads(0, 10), -1);
        due(x.spreads(0, -1), -1);
        due(x.days(-1), 2);
        x.passes();
        due(x.days(-1), 1);
        due(x.spreads(1, 1), 0);
        due(x.spreads(1, 2), 1);
        // Six one behind the other, each as long as the one ahead has something new to tell.
        AcrossTheGap six = told("p63;p00;d200;d201;d202;d203;d204;d205;o00000;");
        due(six.days(-1), 6);
        due(six.spreads(1, 5), 6);
        due(six.days(1), 63);
    }

    private static void neededLoudestNarrow() {
        promise(37);
        AcrossTheGap x = told("p03;p00;p00;d001;d011;d302;o00001;o10000;k12;");
        // Where 0 is away 1 tells the same; without QUARREL 2 (no KIN) nothing is less.
        due(x.needed(), 0);
        x.kin(0, 2);
        due(x.needed(), bits(2));
        due(told("p03;p00;p00;d001;d001;o00001;").needed(), 0);
        due(new AcrossTheGap().needed(), 0);
        due(told("p01;p00;p00;d001;d001;o00001;").needed(), 1);
        promise(38);
        due(x.loudest(0), 0);
        due(x.loudest(1), 3);
        AcrossTheGap l = told("p03;p03;p03;d010;d520;o00005;o10405;o20507;");
        // HOURS 0 .. 3 through 0 one; 4 through 1, 0; 5 through 1, 2; 6 and 7 through 2.
        due(l.loudest(0), 0);
        due(l.loudest(1), 5);
        due(l.loudest(2), -2);
        due(l.loudest(-1), -2);
        AcrossTheGap tie = told("p00;p01;p02;d000;d010;o10000;o20000;");
        due(tie.loudest(0), 1);
        due(tie.loudest(1), 1);
        due(told("p00;d000;").loudest(0), -9);
        due(told("p00;d000;").loudest(1), 0);
        promise(39);
        AcrossTheGap n = told("p01;p00;d101;o00303;o00606;");
        // In HOUR 6 alone the UNCLE of FIGURE 0 speaks: 3 could be missed.
        due(n.narrow(0, 0), 1);
        due(n.narrow(0, 1), 3);
        due(n.narrow(1, 0), 0);
        due(n.narrow(1, 1), -9);
        n.open(0, 8);
        due(n.narrow(0, 0), 3);
        due(n.narrow(0, 1), 3);
        AcrossTheGap nought = told("p01;p00;d001;o00002;");
        due(nought.narrow(0, 0), 3);
        due(nought.narrow(0, 1), 0);
        due(n.person(0, 1), bits(3, 6, 8));
        due(n.narrow(2, 9), -1);
        due(n.narrow(-1, 0), -1);
        due(n.narrow(0, 2), -2);
        due(n.narrow(0, -1), -2);
        // An HOUR without which more is known is none in which ALL is as it is.
        AcrossTheGap less = told("p02;p01;p00;p00;d001;d301;o00000;o10000;");
        due(less.all(), 4);
        due(less.narrow(0, 0), 0);
    }

    private static void keyHalfTurnedTwin() {
        promise(40);
        // FACT 1 would come to both by itself: any other adds more, the least of these is 0.
        AcrossTheGap x = told("p01;p00;p00;d001;o00000;");
        due(x.key(), 0);
        due(told("p01;p00;p00;d000;o00000;").key(), 1);
        due(told("p00;k00;k01;k02;k03;k04;k05;k06;k07;k08;").key(), 9);
        due(told("p00;k00;k01;k02;k03;k04;k05;k06;k07;k08;k09;").key(), 0);
        due(new AcrossTheGap().key(), 0);
        due(told("p00;k00;").key(), 1);
        promise(41);
        due(three().half(), 6);
        due(new AcrossTheGap().half(), 0);
        AcrossTheGap h = three();
        h.learns(0, 5);
        due(h.half(), 6);
        h.learns(0, 6);
        due(h.half(), 0);
        due(told("p01;p00;d001;o02323;").half(), 24);
        due(told("p01;p01;p00;d001;o00505;o10909;").half(), 6);
        promise(42);
        AcrossTheGap t = told("p01;p00;d401;o00011;");
        due(t.all(), 0);
        due(t.turned(), 1);
        due(t.person(0, 1), 0xfff);
        AcrossTheGap t2 = told("p01;p00;d401;o01212;");
        due(t2.all(), 1);
        due(t2.turned(), 0);
        due(told("p01;p00;d401;o01111;").turned(), 1);
        due(told("p01;p00;d401;o00000;").turned(), 1);
        due(told("p01;p00;d001;o02323;").turned(), 1);
        due(told("p01;p00;d001;").turned(), 0);
        promise(43);
        AcrossTheGap w = told("p01;p02;p04;p08;d000;d310;d120;d030;", "o00323;o10323;o20323;o30020;");
        // 0: 3 to 23; 1: odd HOURS of these; 2: even ones; 3: to 20. So 0 and 3 have 18 together.
        due(w.twin(), 3);
        due(told("p01;p02;d000;d010;o00005;o10611;").twin(), -9);
        due(told("p01;p02;d000;d010;o00006;o10611;").twin(), 1);
        due(told("p03;d000;d300;o00000;").twin(), 1);
        due(told("d000;").twin(), -9);
        due(told("p01;p02;p04;d000;d010;d020;o10000;o20000;").twin(), 12);
        due(told("p01;p02;p04;d000;d010;d020;o00000;o10000;o20000;").twin(), 1);
    }

    private static void keeperOpeningsDinner() {
        promise(45);
        due(new AcrossTheGap().keeper(0), -9);
        due(new AcrossTheGap().keeper(1), -9);
        due(new AcrossTheGap().keeper(2), -2);
        due(new AcrossTheGap().keeper(-1), -2);
        AcrossTheGap x = told("p00;p01;p00;p02;d011;d032;d033;o10000;o30000;k29;");
        due(x.all(), 5);
        due(x.keeper(0), 1);
        due(x.keeper(1), 3);
        x.shut(1);
        due(x.keeper(0), 3);
        due(x.keeper(1), 1);
        x.shut(3);
        due(x.keeper(0), 0);
        due(x.keeper(1), 1);
        due(x.count(2), 2);
        promise(46);
        AcrossTheGap o = told("p01;p00;p00;d101;o00303;");
        due(o.openings(0, 0), 12);
        due(o.openings(0, 1), 0);
        o.leans(0, 1);
        due(o.openings(0, 0), 0);
        due(o.openings(0, 1), -9);
        o.open(0, 3);
        due(o.openings(0, 0), 12);
        due(o.openings(0, 1), 1);
        due(o.openings(1, 0), 0);
        due(o.person(0, 1), 0);
        due(o.openings(3, 9), -1);
        due(o.openings(-1, 0), -1);
        due(o.openings(0, 2), -2);
        due(o.openings(0, -1), -2);
        promise(47);
        AcrossTheGap d = told("p01;p02;d000;d310;o00016;o11023;");
        // 0: HOURS 0 .. 16; 1: 11, 13, 15, .. 23. Quiet ones: 18, 20, 22.
        due(d.dinner(1, 0), 18);
        due(d.dinner(1, 1), 0);
        due(d.dinner(2, 0), 17);
        due(d.dinner(2, 1), 1);
        due(d.dinner(3, 0), 18);
        due(d.dinner(3, 1), 1);
        due(d.dinner(12, 0), 12);
        due(d.dinner(12, 1), 11);
        due(d.dinner(0, 9), -4);
        due(d.dinner(MIN, 0), -4);
        due(d.dinner(13, 9), -6);
        due(d.dinner(12, 2), -2);
        due(d.dinner(1, -1), -2);
        due(told("p01;d000;o00022;").dinner(1, 0), 23);
        due(new AcrossTheGap().dinner(12, 0), 0);
    }

    private static void shareBridgeHeir() {
        promise(48);
        AcrossTheGap x = told("p01;p02;d000;d510;d000;o00016;o11023;");
        // 0: 17 times; 1: 14 times.
        due(x.share(0, 0), 17);
        due(x.share(0, 1), 31);
        due(x.share(1, 0), 14);
        due(x.share(1, 1), 31);
        due(x.share(2, 0), 0);
        due(x.share(2, 1), 1);
        due(x.share(3, 9), BIG + 1);
        due(x.share(-1, 0), BIG + 1);
        due(x.share(0, 2), BIG + 2);
        due(x.share(0, -1), BIG + 2);
        AcrossTheGap y = told("p01;p02;d000;d010;o00003;o10001;");
        due(y.share(0, 0), 2);
        due(y.share(0, 1), 3);
        due(y.share(1, 0), 1);
        due(y.share(1, 1), 3);
        AcrossTheGap silent = told("p00;d000;");
        due(silent.share(0, 0), 0);
        due(silent.share(0, 1), 1);
        promise(49);
        due(new AcrossTheGap().bridge(), -9);
        due(told("p01;d000;").bridge(), -9);
        due(told("p01;d000;d000;").bridge(), 1);
        due(told("p01;p02;p04;d001;d012;d022;o00000;o10000;o20000;").bridge(), 1);
        due(told("p01;p02;p04;d001;d012;d023;k11;o00000;o10000;o20000;").bridge(), 12);
        due(told("p01;p02;p04;d001;d012;d023;o00000;o10000;o20000;").bridge(), 1);
        due(told("p01;p02;p04;d002;d011;d021;k12;o00000;o10000;o20000;").bridge(), 12);
        promise(50);
        AcrossTheGap h = told("p01;p00;d130;o00000;o00202;o00303;");
        due(h.heir(0), 0);
        due(h.dead(0, 1), 3);
        h.open(0, 5);
        h.open(0, 7);
        due(h.heir(0), 1);
        due(h.heir(1), -1);
        due(h.heir(-1), -1);
        due(told("p00;d090;").heir(0), 0);
        // The other has the mouth of 0 in the one even HOUR, and 1 is OPEN in an odd one.
        due(told("p03;p02;d000;d100;o00000;o10101;").heir(1), 1);
    }

    private static void secretSynod() {
        promise(51);
        due(new AcrossTheGap().secret(), 0);
        AcrossTheGap x = three();
        due(x.secret(), 2);
        x.learns(0, 1);
        due(x.secret(), 0);
        x.learns(2, 9);
        due(x.secret(), 512);
        due(told("p00;k05;").secret(), 0);
        due(told("p00;p00;k03;").secret(), 8);
        promise(52);
        due(new AcrossTheGap().synod(), 0);
        due(told("p00;p00;").synod(), 0);
        due(three().synod(), 2);
        due(told("p00;p00;p00;k01;k12;k21;k22;").synod(), 4);
        due(told("p00;p00;p00;k01;k12;k13;k21;k22;").synod(), 3);
        due(told("p00;p00;p00;k01;k12;k23;").synod(), 7);
        due(told("p00;p00;p00;p00;k01;k02;k13;k21;k33;k32;").synod(), 3);
    }

    private static void rows() {
        promise(53);
        AcrossTheGap x = new AcrossTheGap();
        due(x.row(-1), -4);
        due(x.row(100), -6);
        for (int i = 1; i <= 24; i++) {
            due(x.row(i == 1 ? 0 : 99), i);
        }
        due(x.row(0), -6);
        due(x.row(-1), -4);
        due(x.row(MAX), -6);
        due(x.count(6), 24);
        promise(55);
        due(x.clear(), 24);
        due(x.clear(), 0);
        due(x.count(6), 0);
        due(x.row(5), 1);
        promise(54);
        AcrossTheGap y = told("p03;p04;p00;d001;d302;d010;o00405;o10505;");
        rowOf(y, 0, 0, 0, 0, 2, 2, 0);
        due(y.judge(), -9);
        due(y.count(6), 0);
        due(y.judge(), -9);
        rowOf(y, 0, 0, 0, 0, 2, 1, 1);
        due(y.judge(), 5);
        due(y.count(6), 0);
        rowOf(y, 3, 3);
        due(y.judge(), 0);
        rowOf(y, 0);
        due(y.judge(), -9);
        rowOf(y, 0, 0, 0, 0, 2, 2, 0, 0, 0, 0, 0, 0, 0, 0, 0, 0, 0, 0, 0, 0, 0, 0, 0, 99);
        due(y.judge(), 23);
    }

    private static void lots() {
        promise(56);
        AcrossTheGap x = told("p01;p00;p00;d001;k01;o00000;");
        // z 0 draws 12345 (over 65536: 0); then -740551042, its sign's bit away 1406932606
        // (over 65536: 21468, modulo 24: 12): OPEN 0 .. 12, and the two beside 0 KNOW it with him.
        due(x.lots(1, 0, 0), 3);
        due(x.lots(1, 0, 1), 1);
        due(x.lots(20, 7, 0), 60);
        due(x.lots(20, 7, 1), 20);
        due(x.person(0, 1), 1);
        due(x.count(4), 1);
        // The last of these HOURS, 12, is the first in which a GOLDEN one speaks.
        AcrossTheGap g = told("p01;p00;d401;o00000;");
        due(g.lots(1, 0, 0), 1);
        due(g.lots(1, 0, 1), 0);
        // Counted by another program: the DAYS whose greater DRAW for 0 is 12 or more.
        due(g.lots(20, 2026, 0), 17);
        due(g.lots(20, -5, 0), 14);
        due(g.lots(20, MAX, 0), 16);
        due(g.lots(20, MIN, 0), 14);
        due(g.lots(5, 2026, 0), 4);
        // And those with an even HOUR between the two: not 17 to 17, 11 to 11, 9 to 9.
        AcrossTheGap even = told("p01;p00;d101;");
        due(even.lots(20, 2026, 0), 20);
        due(even.lots(20, -5, 0), 18);
        due(even.lots(20, MAX, 0), 19);
        due(even.lots(20, MIN, 0), 19);
        due(g.lots(0, 0, 9), -4);
        due(g.lots(MIN, 0, 0), -4);
        due(g.lots(21, 0, 9), -6);
        due(g.lots(20, MAX, 2), -2);
        due(g.lots(1, MIN, -1), -2);
        due(new AcrossTheGap().lots(3, 3, 0), 0);
        due(new AcrossTheGap().lots(3, 3, 1), 0);
        due(told("p00;k00;").lots(3, 1, 1), 3);
        AcrossTheGap shut = told("p01;p00;d001;s0;k13;");
        due(shut.lots(5, 9, 0), 5);
        due(shut.lots(5, 9, 1), 0);
    }

    private static void images() {
        promise(57);
        AcrossTheGap x = three();
        x.shut(2);
        x.row(4);
        x.feed('p');
        due(x.image(), 3);
        due(x.count(7), 1);
        promise(58);
        due(x.restore(), 3);
        due(x.count(7), 0);
        x.comes(5);
        x.dies(1, 1, 1);
        x.open(0, 9);
        x.shut(2);
        x.shut(1);
        x.kin(1, 0);
        x.leans(0, 4);
        x.learns(2, 2);
        x.passes();
        x.row(5);
        x.feed('q');
        x.shut(9);
        due(x.restore(), 3);
        due(x.count(0), 3);
        due(x.count(1), 1);
        due(x.count(2), 1);
        due(x.count(3), 2);
        due(x.count(4), 0);
        due(x.count(5), 2);
        due(x.count(6), 2);
        due(x.count(7), 0);
        due(x.count(11), 1);
        due(x.person(0, 1), bits(5, 6));
        due(x.person(1, 0), 0);
        due(x.person(2, 2), 1);
        due(x.dead(0, 1), 0);
        due(x.back(), -3);
        // What changed behind an image does not come back with it; one can be taken anew.
        x.shut(0);
        due(x.restore(), 3);
        due(x.person(0, 2), 0);
        due(x.comes(7), 3);
        due(x.image(), 4);
        due(x.comes(7), 4);
        due(x.restore(), 4);
        due(x.comes(1), 4);
        due(x.person(4, 0), 1);
        AcrossTheGap empty = new AcrossTheGap();
        due(empty.restore(), -3);
        due(empty.image(), 0);
        due(empty.comes(1), 0);
        empty.shut(0);
        empty.open(0, 3);
        empty.learns(0, 3);
        due(empty.restore(), 0);
        due(empty.count(0), 0);
        due(empty.comes(0), 0);
        due(empty.person(0, 1) + empty.person(0, 2) + empty.person(0, 3), 0);
    }

    private static void counts() {
        promise(59);
        AcrossTheGap x = told("p01;p00;p00;d001;d002;s1;s2;k05;k16;k17;o00104;o12222;");
        x.feed('x');
        x.feed('y');
        x.feed('z');
        x.row(1);
        x.shut(0);
        x.leans(0, 0);
        due(x.count(0), 3);
        due(x.count(1), 2);
        due(x.count(2), 3);
        due(x.count(3), 5);
        due(x.count(4), 3);
        due(x.count(5), 3);
        due(x.count(6), 1);
        due(x.count(7), 2);
        due(x.count(8), -9);
        due(x.count(10), -9);
        due(x.count(17), -9);
        due(x.count(-1), -9);
        due(x.count(MIN), -9);
        due(x.count(MAX), -9);
        x.spoke(9);
        x.two(9);
        x.two(9);
        x.restore();
        x.restore();
        x.restore();
        x.row(-1);
        x.row(-1);
        x.row(-1);
        x.row(-1);
        for (int i = 0; i < 6; i++) {
            x.row(100);
        }
        due(x.count(11), 1);
        due(x.count(12), 2);
        due(x.count(13), 3);
        due(x.count(14), 4);
        due(x.count(15), 0);
        due(x.count(16), 6);
    }
}
