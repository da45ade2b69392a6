/** The edges of part I: who sits there, who may speak through whom, who hears it. */
final class EdgesOfTerms extends Check {
    static void run() {
        nobody();
        people();
        dead();
        kinOfLaterOnes();
        openHours();
        shut();
        facts();
        oneMouthOneVoice();
        uncle();
        quarrel();
        bride();
        golden();
        hissing();
        firstFromFigureOn();
        bothBeside();
        fromTheEndOfTheHour();
        eachDayAnew();
    }

    private static void nobody() {
        about(1, "Nobody.");
        AcrossTheGap x = new AcrossTheGap();
        for (int what = 0; what <= 7; what++) {
            due(x.count(what), 0);
        }
        for (int what = 11; what <= 16; what++) {
            due(x.count(what), 0);
        }
        due(x.all(), 0);
        due(x.seat(), -9);
        due(x.questions(), 0);
        due(x.needed(), 0);
        due(x.key(), 0);
        due(x.half(), 0);
        due(x.turned(), 0);
        due(x.twin(), -9);
        due(x.bridge(), -9);
        due(x.secret(), 0);
        due(x.synod(), 0);
        due(x.passes(), 0);
        due(x.clear(), 0);
        due(x.judge(), -9);
        due(x.image(), 0);
        due(x.restore(), 0);
        due(x.family(), -1000);
    }

    private static void people() {
        about("PEOPLE 0 .. 6 as they come (7 at most)");
        AcrossTheGap x = new AcrossTheGap();
        for (int p = 0; p <= 6; p++) {
            due(x.count(0), p);
            due(x.comes(0), p);
        }
        due(x.comes(0), -6);
        due(x.count(0), 7);
        due(x.person(6, 0), 0);
        due(x.person(7, 0), -1);
        about(6, "-4; -6 (63; 7 there are)");
        AcrossTheGap y = new AcrossTheGap();
        due(y.comes(-1), -4);
        due(y.comes(MIN), -4);
        due(y.comes(64), -6);
        due(y.comes(MAX), -6);
        due(y.count(0), 0);
        due(y.comes(0), 0);
        due(y.comes(63), 1);
        due(y.person(0, 0), 0);
        due(y.person(1, 0), 63);
        due(x.comes(-1), -4);
        due(x.comes(63), -6);
        about(4, "OPEN (1, bits of HOURS), SHUT (2: 1, 0), KNOWS (3, bits). -1; -2.");
        due(y.person(0, -1), -2);
        due(y.person(0, 3), 0);
        due(y.person(0, 4), -2);
        due(y.person(1, 1), 0);
        due(y.person(2, 1), -1);
        due(y.person(-1, 1), -1);
        due(y.person(2, 4), -1);
    }

    private static void dead() {
        about("DEAD 0 .. 5 as they come (6 at most), of KINDS: 0 DEAD;");
        AcrossTheGap x = new AcrossTheGap();
        for (int d = 0; d <= 5; d++) {
            due(x.count(1), d);
            due(x.dies(5 - d, 0, 0), d);
        }
        due(x.dies(0, 0, 0), -6);
        due(x.count(1), 6);
        due(x.dead(0, 0), 5);
        due(x.dead(5, 0), 0);
        due(x.dead(6, 0), -1);
        about("a FIGURE (0 .. 9), a FACT (0 .. 9) that he tells");
        AcrossTheGap y = new AcrossTheGap();
        due(y.dies(0, -1, 0), -4);
        due(y.dies(0, 0, -1), -4);
        due(y.dies(0, 10, 0), -6);
        due(y.dies(0, 0, 10), -6);
        due(y.count(1), 0);
        due(y.dies(0, 0, 0), 0);
        due(y.dies(0, 9, 9), 1);
        due(y.dead(0, 1) + y.dead(0, 2), 0);
        due(y.dead(1, 1), 9);
        due(y.dead(1, 2), 9);
        tell(y, "p03;p02;o00000;o10000;");
        due(y.knows(1, 24), bits(0));
        due(y.knows(0, 24), bits(9));
        about(7, "-2; -4 either; -6 (9 either; 6 there are)");
        due(y.dies(-1, 0, 0), -2);
        due(y.dies(6, 0, 0), -2);
        due(y.dies(0, 0, 0), 2);
        due(y.dies(5, 0, 0), 3);
        due(x.dies(6, 10, -1), -2);
        due(x.dies(5, 10, -1), -4);
        due(x.dies(5, -1, 10), -4);
        due(x.dies(5, 9, 9), -6);
        about(5, "Of one of DEAD: KIND (what 0), FIGURE (1), FACT (2). -1; -2.");
        due(y.dead(3, 0), 5);
        due(y.dead(3, -1), -2);
        due(y.dead(3, 3), -2);
        due(y.dead(4, 3), -1);
        due(y.dead(-1, 0), -1);
        about(11, "FIGURE of one of DEAD becomes v: what it was. -1; -4; -6 9.");
        due(y.leans(3, -1), -4);
        due(y.leans(3, 10), -6);
        due(y.leans(3, 9), 0);
        due(y.leans(3, 0), 9);
        due(y.leans(4, 0), -1);
        due(y.leans(-1, 0), -1);
    }

    private static void kinOfLaterOnes() {
        about("KIN (DEAD as bits 0 .. 63; of those that come later, too)");
        AcrossTheGap x = told("p32;p31;o00000;");
        for (int d = 0; d < 5; d++) {
            due(x.dies(0, 0, 0), d);
            due(x.through(d, 0), -9);
        }
        due(x.dies(0, 0, 0), 5);
        due(x.through(5, 0), 0);
        x.open(0, 0);
        x.open(1, 0);
        due(x.through(0, 0), 1);
        due(x.through(5, 0), -9);
        about(10, "KIN of one of DEAD, or not any more: 1, 0. -1 either.");
        due(x.kin(0, 5), 0);
        due(x.kin(0, 0), 1);
        due(x.person(0, 0), 1);
        due(x.kin(0, 6), -1);
        due(x.kin(0, -1), -1);
        due(x.kin(2, 0), -1);
        due(x.kin(-1, 0), -1);
        // Not with one who has not come yet.
        due(told("p00;").kin(0, 0), -1);
    }

    private static void openHours() {
        about("OPEN (of each HOUR 0 .. 23 whether his gap is; none at first)");
        AcrossTheGap x = told("p01;p00;d000;");
        due(x.person(0, 1), 0);
        due(x.spoke(0), 0);
        about(8, "OPEN in an HOUR, or not any more: 1, 0. -1 either.");
        due(x.open(0, -1), -1);
        due(x.open(0, 24), -1);
        due(x.open(2, 0), -1);
        due(x.open(-1, 23), -1);
        due(x.open(0, 0), 1);
        due(x.open(0, 23), 1);
        due(x.person(0, 1), bits(0, 23));
        due(x.through(0, 0), 0);
        due(x.through(0, 1), -9);
        due(x.through(0, 22), -9);
        due(x.through(0, 23), 0);
        for (int h = 1; h < 23; h++) {
            due(x.open(0, h), 1);
        }
        due(x.person(0, 1), (1 << 24) - 1);
        due(x.count(3), 24);
        due(x.spoke(0), 24);
        for (int h = 0; h < 24; h++) {
            due(x.open(0, h), 0);
        }
        due(x.person(0, 1), 0);
    }

    private static void shut() {
        about("SHUT or not (not at first)");
        AcrossTheGap x = told("p01;p01;p01;p01;p01;p01;p01;d000;o00000;o60000;");
        due(x.count(2), 0);
        due(x.through(0, 0), 0);
        about(9, "SHUT, or not any more: 1, 0. -1.");
        due(x.shut(-1), -1);
        due(x.shut(7), -1);
        due(x.shut(0), 1);
        due(x.through(0, 0), 6);
        due(x.shut(6), 1);
        due(x.through(0, 0), -9);
        due(x.shut(0), 0);
        due(x.through(0, 0), 0);
        for (int p = 0; p < 6; p++) {
            due(x.shut(p), 1);
        }
        due(x.count(2), 7);
    }

    private static void facts() {
        about("Each of PEOPLE KNOWS FACTS (bits 0 .. 1023; none at first)");
        AcrossTheGap x = told("p00;p00;");
        due(x.person(1, 3), 0);
        about(12, "He KNOWS a FACT: 1 he did not, 0. -1 either.");
        due(x.learns(1, -1), -1);
        due(x.learns(1, 10), -1);
        due(x.learns(2, 0), -1);
        due(x.learns(-1, 0), -1);
        for (int fact = 0; fact <= 9; fact++) {
            due(x.learns(1, fact), 1);
            due(x.learns(1, fact), 0);
            due(x.person(1, 3), (2 << fact) - 1);
        }
        due(x.person(1, 3), 1023);
        due(x.knows(1, 24), 1023);
        due(x.person(0, 3), 0);
    }

    private static void oneMouthOneVoice() {
        about("OPEN in that HOUR, not SHUT, and nobody speaks through him in it so far");
        AcrossTheGap x = told("p63;p63;p63;p63;p63;d000;d000;d000;d000;d000;d000;", "o00001;o10001;o20001;o30001;o40000;");
        for (int d = 0; d < 5; d++) {
            due(x.through(d, 0), d);
        }
        due(x.through(5, 0), -9);
        due(x.through(3, 1), 3);
        due(x.through(4, 1), -9);
        due(x.speak(-1, 0), 5);
        due(x.speak(-1, 1), 4);
    }

    private static void uncle() {
        about("UNCLE: as a DEAD, and HOUR and FIGURE together are even");
        AcrossTheGap x = told("p01;p00;d100;o00023;");
        for (int figure = 0; figure <= 9; figure++) {
            x.leans(0, figure);
            for (int h = 0; h < 24; h++) {
                due(x.through(0, h), h % 2 == figure % 2 ? 0 : -9);
            }
        }
        due(x.spoke(0), 12);
    }

    private static void quarrel() {
        about("QUARREL: as an UNCLE; but also if just one speaks through him so far (all else as an UNCLE)");
        AcrossTheGap x = told("p07;p00;d300;d300;d300;o00023;");
        due(x.speak(0, 0), bits(0, 1));
        due(x.through(2, 0), -9);
        due(x.speak(0, 1), 0);
        due(x.speak(0, 22), bits(0, 1));
        due(x.speak(0, 23), 0);
        // The third of them goes on to the next mouth.
        AcrossTheGap next = told("p07;p07;p00;d300;d300;d300;o00000;o10000;");
        due(next.speak(0, 0), bits(0, 1));
        due(next.speak(1, 0), bits(2));
        // Behind two nobody is a third.
        AcrossTheGap third = told("p63;p00;d000;d300;d000;d100;d200;d500;o00000;");
        due(third.speak(0, 0), bits(0, 1));
        // None but a QUARREL is a second; and he is so by KIN, OPEN and not SHUT alone.
        AcrossTheGap second = told("p63;p00;d000;d000;d100;d200;d400;d500;o01212;");
        due(second.speak(0, 12), 1);
        due(told("p01;p00;d000;d300;o00000;").through(1, 0), -9);
        due(told("p03;p00;d000;d310;o00000;").through(1, 0), -9);
        due(told("p03;p00;d000;d300;o00101;").through(1, 0), -9);
        due(told("p03;p00;d000;d300;o00000;").through(1, 0), 0);
        due(told("p03;p00;d000;d300;o00000;s0;").through(1, 0), -9);
    }

    private static void bride() {
        about("BRIDE: as a DEAD, and somebody beside him does not KNOW her FACT");
        due(told("p00;p01;p00;d209;o10000;").through(0, 0), 1);
        due(told("p00;p01;p00;d209;k09;o10000;").through(0, 0), 1);
        due(told("p00;p01;p00;d209;k29;o10000;").through(0, 0), 1);
        due(told("p00;p01;p00;d209;k09;k29;o10000;").through(0, 0), -9);
        due(told("p00;p01;p00;d209;k08;k28;o10000;").through(0, 0), 1);
        // Himself does not count, nor one who sits farther off.
        due(told("p00;p01;p00;d209;k19;o10000;").through(0, 0), 1);
        due(told("p00;p01;p00;p00;d209;k09;k29;o10000;").through(0, 0), -9);
        // Round the table: beside the first and beside the last.
        due(told("p01;p00;p00;p00;d200;k10;o00000;").through(0, 0), 0);
        due(told("p01;p00;p00;p00;d200;k10;k30;o00000;").through(0, 0), -9);
        due(told("p00;p00;p00;p01;d200;k20;o30000;").through(0, 0), 3);
        due(told("p00;p00;p00;p01;d200;k20;k00;o30000;").through(0, 0), -9);
        // Of two the other; one alone has nobody beside him.
        due(told("p01;p00;d200;o00000;k00;").through(0, 0), 0);
        due(told("p01;p00;d200;o00000;k10;").through(0, 0), -9);
        due(told("p01;d200;o00000;").through(0, 0), -9);
        due(told("p01;d000;o00000;").through(0, 0), 0);
        about("(as all KNOW ahead of the HOUR)");
        // In HOUR 0 itself the DEAD tells 2 what the BRIDE would; she knows it behind it alone.
        AcrossTheGap x = told("p01;p02;p00;d005;d215;k05;o00001;o10001;");
        due(x.through(1, 0), 1);
        due(x.through(1, 1), -9);
    }

    private static void golden() {
        about("GOLDEN: as a BRIDE, and HOUR is 12 or more");
        due(told("p01;p00;d400;o00011;").spoke(0), 0);
        due(told("p01;p00;d400;o01111;").through(0, 11), -9);
        due(told("p01;p00;d400;o01212;").through(0, 12), 0);
        due(told("p01;p00;d400;o02323;").through(0, 23), 0);
        due(told("p01;p00;d400;o00023;k10;").spoke(0), 0);
        due(told("p00;p00;d400;o00023;").spoke(0), 0);
        AcrossTheGap x = told("p01;p00;d400;o00023;");
        due(x.through(0, 12), 0);
        due(x.spoke(0), 1);
    }

    private static void hissing() {
        about("HISSING: as a DEAD, whether KIN or not");
        due(told("p00;d500;o00000;").through(0, 0), 0);
        due(told("p01;d500;o00000;").through(0, 0), 0);
        due(told("p00;d500;o00000;").through(0, 1), -9);
        due(told("p00;d500;o00000;s0;").through(0, 0), -9);
        due(told("p01;d000;d500;o00000;").through(1, 0), -9);
        due(told("p01;p00;d000;d500;o00000;o10000;").through(1, 0), 1);
    }

    private static void firstFromFigureOn() {
        about("through the first of PEOPLE (by numbers from FIGURE modulo how many there are on, round) through whom he MAY; none: not in this HOUR");
        for (int many = 1; many <= 7; many++) {
            AcrossTheGap x = told("d500;");
            for (int p = 0; p < many; p++) {
                x.comes(0);
                x.open(p, 0);
            }
            int last = many - 1;
            x.open(last, 1);
            x.open(0, 2);
            x.open(0, 3);
            if (last > 0) {
                x.open(last, 3);
            }
            for (int figure = 0; figure <= 9; figure++) {
                x.leans(0, figure);
                due(x.through(0, 0), figure % many);
                due(x.through(0, 1), last);
                due(x.through(0, 2), 0);
                due(x.through(0, 3), figure % many == 0 ? 0 : last);
                due(x.through(0, 4), -9);
            }
        }
        // FIGURE 9 begins with 2 of seven, 3 of six, 4 of five, 1 of four, 0 of three, 1 of two.
        int[] from = {0, 0, 1, 0, 1, 4, 3, 2};
        AcrossTheGap nine = told("d590;");
        due(nine.through(0, 0), -9);
        for (int many = 1; many <= 7; many++) {
            nine.comes(0);
            nine.open(many - 1, 0);
            due(nine.through(0, 0), from[many]);
        }
    }

    private static void bothBeside() {
        about("Both beside that one (the next ones round; one alone: nobody; of two the other) KNOW the FACT");
        int[][] beside = {{}, {0}, {2, 1}, {6, 5, 3}, {10, 5, 10, 5}, {18, 5, 10, 20, 9}, {34, 5, 10, 20, 40, 17},
            {66, 5, 10, 20, 40, 80, 33}};
        for (int many = 1; many <= 7; many++) {
            for (int mouth = 0; mouth < many; mouth++) {
                AcrossTheGap x = told("d509;");
                for (int p = 0; p < many; p++) {
                    x.comes(0);
                }
                x.open(mouth, 23);
                int knowing = 0;
                for (int p = 0; p < many; p++) {
                    knowing |= x.knows(p, 24) == bits(9) ? 1 << p : 0;
                }
                due(knowing, beside[many][mouth]);
                due(x.all(), Integer.bitCount(knowing));
            }
        }
    }

    private static void fromTheEndOfTheHour() {
        about("KNOW the FACT from the end of the HOUR on");
        AcrossTheGap first = told("p01;p00;d000;o00000;");
        due(first.knows(1, 0), 0);
        due(first.knows(1, 1), 1);
        due(first.knows(1, 24), 1);
        AcrossTheGap last = told("p01;p00;d000;o02323;");
        due(last.knows(1, 23), 0);
        due(last.knows(1, 24), 1);
    }

    private static void eachDayAnew() {
        about("A DAY: HOURS 0 .. 23, all KNOW what they know at first");
        AcrossTheGap x = told("p01;p00;d205;k13;o00000;o02323;");
        for (int i = 0; i < 2; i++) {
            due(x.knows(1, 0), bits(3));
            due(x.knows(1, 24), bits(3, 5));
            due(x.through(0, 0), 0);
            due(x.through(0, 23), -9);
            due(x.person(1, 3), bits(3));
        }
        about(13, "PASSES: how many FACTS more all KNOW together.");
        due(x.passes(), 1);
        due(x.knows(1, 0), bits(3, 5));
        due(x.through(0, 0), -9);
        due(x.passes(), 0);
        due(told("p01;d000;o00023;").passes(), 0);
    }
}
