/** The edges of what part II asks of other families than the one there is. */
final class EdgesOfWhatIfs extends Check {
    static void run() {
        never();
        just();
        soonest();
        opening();
        seat();
        askedFirst();
    }

    /**
     * FACT 9 is told through 2, and through 5 if 2 is SHUT; FACT 0 through 5, if he is not taken:
     * SHUT 2 or SHUT 5, and nobody KNOWS FACT 0.
     */
    private static AcrossTheGap eitherOf() {
        return told("p00;p00;p01;p00;p00;p03;p00;d029;d000;o20000;o50000;");
    }

    private static void shutFor(AcrossTheGap x, int person, int fact, int set, int many) {
        due(x.never(person, fact, 0), set);
        due(x.never(person, fact, 1), many);
    }

    private static void never() {
        about("NEVER: the fewest PEOPLE to be SHUT (those SHUT stay so; bits of the new ones, of several the least) so that one does not KNOW a FACT at the end; how many; -9 (he knows it at first)");
        AcrossTheGap x = told("p01;p01;p00;d000;k09;o00000;o10000;");
        shutFor(x, 0, 0, 0, 0);
        shutFor(x, 1, 0, bits(0), 1);
        shutFor(x, 2, 0, bits(0, 1), 2);
        shutFor(x, 0, 9, -9, -9);
        x.shut(1);
        shutFor(x, 2, 0, bits(0), 1);
        x.shut(0);
        shutFor(x, 2, 0, 0, 0);
        due(x.count(2), 2);
        x.learns(2, 0);
        shutFor(x, 2, 0, -9, -9);
        AcrossTheGap either = eitherOf();
        due(either.heard(4, 0), 1);
        shutFor(either, 4, 0, bits(2), 1);
        shutFor(either, 6, 0, bits(2), 1);
        // One alone, and the last of seven.
        shutFor(told("p01;d000;o00023;"), 0, 0, 0, 0);
        shutFor(told("p00;p00;p00;p00;p00;p00;p01;d000;o60000;"), 0, 0, bits(6), 1);
        about(23, "NEVER: bits (what 0; -9), how many (1; -9). -1 either; -2.");
        due(x.never(3, 0, 0), -1);
        due(x.never(-1, 0, 0), -1);
        due(x.never(0, -1, 0), -1);
        due(x.never(0, 10, 2), -1);
        due(x.never(0, 9, -1), -2);
        due(x.never(2, 0, 2), -2);
    }

    private static void just() {
        about("JUST: the set of PEOPLE SHUT (bits, all others not; the fewest, of several the least) so that just the told ones (bits) KNOW a FACT at the end; -9");
        AcrossTheGap x = told("p01;p01;d000;o00000;o10000;");
        for (int i = 0; i < 2; i++) {
            due(x.just(0, 0), bits(0, 1));
            due(x.just(0, 1), bits(0));
            due(x.just(0, 2), 0);
            due(x.just(0, 3), -9);
            due(x.just(9, 0), 0);
            due(x.just(9, 1), -9);
            // Who is SHUT now does not matter.
            x.shut(0);
        }
        due(eitherOf().just(0, 0), bits(2));
        due(eitherOf().just(0, bits(4, 6)), 0);
        AcrossTheGap all = told("p00;p00;p00;p00;p00;p00;p00;", "k09;k19;k29;k39;k49;k59;k69;");
        due(all.just(9, 127), 0);
        due(all.just(9, 126), -9);
        about(24, "JUST; -9. -1 FACT; -4; -6 bits of nobody.");
        due(all.just(9, 128), -6);
        due(all.just(9, MAX), -6);
        due(all.just(9, -1), -4);
        due(all.just(9, MIN), -4);
        due(all.just(10, 128), -1);
        due(all.just(-1, -1), -1);
        due(x.just(0, 4), -6);
        due(new AcrossTheGap().just(9, 0), 0);
        due(new AcrossTheGap().just(9, 1), -6);
    }

    private static void soonest() {
        about("SOONEST: the one of PEOPLE who, OPEN all day and not SHUT (he alone otherwise), makes HEARD of one for a FACT soonest, sooner than now; of several the least; -9");
        // Behind HOUR 23 now; OPEN all day 0 or 2 would make it HOUR 0.
        AcrossTheGap late = told("p01;p00;p01;d000;o02323;");
        due(late.soonest(1, 0), 0);
        due(told("p00;p00;p01;d000;").soonest(1, 0), 2);
        due(told("p00;p00;p01;d000;s2;").soonest(1, 0), 2);
        // As soon as now is not sooner, nor is anything than what is known at first.
        due(told("p01;p00;p01;d000;o00000;").soonest(1, 0), -9);
        due(told("p01;p00;p01;d000;o00101;").soonest(1, 0), 0);
        due(told("p01;p00;d000;k10;").soonest(1, 0), -9);
        // Never now, behind HOUR 23 then: 2, who is OPEN in it alone, takes the other off 0's mouth.
        AcrossTheGap last = told("p03;p00;p01;p00;d020;d001;o22323;");
        due(last.heard(1, 1), -9);
        due(last.soonest(1, 1), 0);
        about(25, "SOONEST; -9. -1 either.");
        due(told("p01;d000;").soonest(0, 0), -9);
        due(late.soonest(1, 9), -9);
        due(late.soonest(1, 10), -1);
        due(late.soonest(1, -1), -1);
        due(late.soonest(3, 0), -1);
        due(late.soonest(-1, 0), -1);
        due(late.count(3), 1);
    }

    private static void opening() {
        about("OPENING of one for just one HOUR (no other HOUR): that by which ALL is most, of several the first; that ALL");
        // In HOUR 23 alone 1 takes FACT 0 off 0's mouth, and FACT 1 is told, too.
        AcrossTheGap last = told("p03;p01;p00;d010;d001;o12323;");
        due(last.opening(0, 0), 23);
        due(last.opening(0, 1), 4);
        due(told("p03;p01;p00;d010;d001;o12222;").opening(0, 0), 22);
        due(told("p03;p01;p00;d010;d001;o10000;").opening(0, 0), 0);
        // OPEN all day he would do more than in any HOUR alone.
        AcrossTheGap all = told("p03;p00;p00;d400;d401;o00023;");
        due(all.all(), 4);
        due(all.opening(0, 0), 12);
        due(all.opening(0, 1), 2);
        due(all.person(0, 1), bits(24) - 1);
        AcrossTheGap shut = told("p01;p00;d000;s0;k19;");
        due(shut.opening(0, 0), 0);
        due(shut.opening(0, 1), 1);
        about(26, "OPENING: the HOUR (what 0), ALL (1). -1; -2.");
        due(shut.opening(0, -1), -2);
        due(shut.opening(0, 2), -2);
        due(shut.opening(2, 2), -1);
        due(shut.opening(-1, 0), -1);
        due(told("p00;").opening(0, 0), 0);
        due(told("p00;").opening(0, 1), 0);
    }

    private static void seat() {
        about("SEAT: the two of PEOPLE (10 the lesser and the other) who, changing seats (all that is theirs, KNOWS, too), make ALL most, more than now; of several the least; -9");
        about(27, "SEAT; -9.");
        due(new AcrossTheGap().seat(), -9);
        due(told("p01;d000;o00000;").seat(), -9);
        due(told("p00;p01;d000;o10000;").seat(), -9);
        // The first has the mouth; the other KNOWS it now, and would not if they changed.
        AcrossTheGap two = told("p01;p01;d000;k10;o00000;o10000;");
        due(two.all(), 1);
        due(two.seat(), 1);
        due(two.person(1, 3), 1);
        // HISSING begins with 6, who is OPEN in both HOURS; in 5's seat he lets 4 speak first.
        AcrossTheGap last = told("p00;p00;p00;p00;p00;p00;p00;d560;o40000;o60001;");
        due(last.all(), 2);
        due(last.seat(), 56);
        due(last.person(6, 1), 3);
        due(last.person(5, 1), 0);
        // KIN goes with him: in 3's seat 0 tells 2 and the one in his own, who do not know it.
        due(told("p01;p00;p00;p00;d000;k10;o00000;").seat(), 3);
        // SHUT, too: 0's DEAD speaks through 1 now, beside 2, who KNOWS it; through 0 he would tell 4.
        AcrossTheGap shut = told("p01;p01;p00;p00;p00;d000;s0;k20;o00000;o10000;");
        due(shut.all(), 2);
        due(shut.seat(), 1);
        // In 4's seat 1 tells 3 and 5, if SHUT goes to 1's seat; in 5's he tells two, too.
        AcrossTheGap farther = told("p00;p01;p00;p00;p01;p00;p00;d000;k00;k20;s4;", "o10000;o40000;");
        due(farther.all(), 2);
        due(farther.seat(), 14);
        due(farther.person(4, 2), 1);
        // Changed with 1 or 2 he tells one who does not KNOW it, with 3 two, with 4 one again.
        due(told("p01;p00;p00;p00;p00;p00;d000;k10;k50;o00000;").seat(), 3);
    }

    /** Who came by calls: 0 and 1 are OPEN in HOUR 2, two speak through 0, the third through 1. */
    private static AcrossTheGap called() {
        AcrossTheGap x = new AcrossTheGap();
        x.comes(7);
        x.comes(7);
        x.comes(0);
        x.dies(0, 0, 0);
        x.dies(3, 0, 1);
        x.dies(3, 0, 2);
        x.open(0, 2);
        x.open(1, 2);
        return x;
    }

    /** Each question is the first that its object is asked: none needs another ahead of it. */
    private static void askedFirst() {
        startAt("asked first");
        due(called().all(), 6);
        due(called().knows(2, 24), bits(0, 1, 2));
        due(called().through(2, 2), 1);
        due(called().speak(-1, 2), 3);
        due(called().speak(0, 2), bits(0, 1));
        due(called().two(0), 2);
        due(called().heard(0, 2), 3);
        due(called().spoke(1), 1);
        due(called().told(2, 0), 1);
        due(called().told(0, 1), 2);
        due(called().never(2, 0, 0), bits(0, 1));
        due(called().just(0, bits(1, 2)), 0);
        due(called().soonest(2, 0), 0);
        due(called().opening(0, 1), 6);
        due(called().can(0, 1, 2), 1);
        due(called().who(0, 1), bits(0, 1));
        due(called().questions(), bits(0, 1, 2));
        due(called().quarrels(0), 1);
        due(called().quarrels(1), bits(1));
        due(called().silent(0), 23);
        due(called().colds(2, 0, 2, 0), 3);
        due(called().colds(2, 0, 2, 1), 4);
        due(called().list(0, 0), bits(2));
        due(called().days(-1), 1);
        due(called().needed(), bits(0, 1, 2));
        due(called().loudest(1), 2);
        due(called().narrow(0, 1), -9);
        due(called().key(), 3);
        due(called().half(), 3);
        due(called().turned(), 2);
        due(called().twin(), 1);
        due(called().spreads(2, 2), 1);
        due(called().keeper(1), 4);
        due(called().openings(0, 0), 0);
        due(called().dinner(12, 1), 0);
        due(called().share(2, 1), 3);
        due(called().bridge(), 1);
        due(called().heir(0), 0);
        due(called().secret(), bits(0, 1, 2));
        due(called().synod(), bits(2));
        due(called().passes(), 6);
        AcrossTheGap two = new AcrossTheGap();
        two.comes(1);
        two.comes(1);
        two.dies(0, 0, 0);
        two.learns(1, 0);
        two.open(0, 0);
        two.open(1, 0);
        due(two.seat(), 1);
    }
}
