/**
 * A family at a round table through whom the dead speak, by hours, days and what-ifs.
 *
 * Everything is made once, in the constructors: no call makes an object, so that
 * a long run of calls stays small. What-ifs are played in the family "mind",
 * a copy of the family "now"; "day" holds the DAY that was last lived through.
 */
public final class AcrossTheGap {
    private static final int PEOPLE_MOST = 7;
    private static final int DEAD_MOST = 6;
    private static final int HOURS = 24;
    private static final int FACTS = 10;
    private static final int FIGURES = 10;
    private static final int KINDS = 6;
    private static final int KIN_MOST = 63;
    private static final int LETTERS_MOST = 96;
    private static final int ROW_MOST = 24;
    private static final int BACK_MOST = 8;
    private static final int DAYS_MOST = 70;
    private static final int ALL_HOURS = (1 << HOURS) - 1;

    private static final int UNCLE = 1;
    private static final int BRIDE = 2;
    private static final int QUARREL = 3;
    private static final int GOLDEN = 4;
    private static final int HISSING = 5;
    private static final int GOLDEN_FROM = 12;

    private static final int NONE = -9;
    private static final int NOBODY = -1;
    private static final int OTHER = -2;
    private static final int STATE = -3;
    private static final int BELOW = -4;
    private static final int ROOM = -6;
    private static final long LONG_REFUSAL = 4000000000000000000L;

    private static final int FAULT_OF_LETTERS = -1000;
    private static final int FAULT_OF_SENSE = -2000;

    private static final int NO_FACT_TOLD = 10;

    private final Family now = new Family();
    private final Family mind = new Family();
    private final Family picture = new Family();
    private boolean pictured;
    private final Day day = new Day();
    private final Changes changes = new Changes();
    private final Letters letters = new Letters();
    private final int[] rowNumbers = new int[ROW_MOST];
    private int rowSize;
    private final int[] refusals = new int[7];

    public AcrossTheGap() {
    }

    // ---- letters ----

    public int feed(int letter) {
        if (letter < 0) {
            return refuse(BELOW);
        }
        if (letter > 255 || letters.size >= LETTERS_MOST) {
            return refuse(ROOM);
        }
        return letters.add(letter);
    }

    public int family() {
        int broken = letters.brokenAt();
        if (broken >= 0) {
            letters.size = 0;
            return FAULT_OF_LETTERS - broken;
        }
        // Told in mind first, so that a FAULT leaves all as it was.
        mind.become(now);
        int at = 0;
        int statements = 0;
        while (at < letters.size && statements < LETTERS_MOST) {
            if (!letters.tellStatement(at, mind)) {
                letters.size = 0;
                return FAULT_OF_SENSE - at;
            }
            at = letters.behind(at);
            statements++;
        }
        letters.size = 0;
        now.become(mind);
        changes.forget();
        return statements;
    }

    // ---- what there is, and how it changes ----

    public int person(int person, int what) {
        if (noPerson(person)) {
            return refuse(NOBODY);
        }
        if (noWhat(what, 4)) {
            return refuse(OTHER);
        }
        switch (what) {
            case 0:
                return now.kinOf[person];
            case 1:
                return now.openHours[person];
            case 2:
                return now.isShut(person) ? 1 : 0;
            default:
                return now.facts[person];
        }
    }

    public int dead(int dead, int what) {
        if (noDead(dead)) {
            return refuse(NOBODY);
        }
        if (noWhat(what, 3)) {
            return refuse(OTHER);
        }
        switch (what) {
            case 0:
                return now.kinds[dead];
            case 1:
                return now.figures[dead];
            default:
                return now.tales[dead];
        }
    }

    public int comes(int kin) {
        if (kin < 0) {
            return refuse(BELOW);
        }
        if (!now.addPerson(kin)) {
            return refuse(ROOM);
        }
        changes.forget();
        return now.people - 1;
    }

    public int dies(int kind, int figure, int fact) {
        if (kind < 0 || kind >= KINDS) {
            return refuse(OTHER);
        }
        if (figure < 0 || fact < 0) {
            return refuse(BELOW);
        }
        if (!now.addDead(kind, figure, fact)) {
            return refuse(ROOM);
        }
        changes.forget();
        return now.deadOnes - 1;
    }

    public int open(int person, int hour) {
        if (noPerson(person) || noHour(hour)) {
            return refuse(NOBODY);
        }
        now.turnOpen(person, hour);
        changes.add(Changes.OPENED, person, hour);
        return now.isOpen(person, hour) ? 1 : 0;
    }

    public int shut(int person) {
        if (noPerson(person)) {
            return refuse(NOBODY);
        }
        now.turnShut(person);
        changes.add(Changes.SHUT, person, 0);
        return now.isShut(person) ? 1 : 0;
    }

    public int kin(int person, int dead) {
        if (noPerson(person) || noDead(dead)) {
            return refuse(NOBODY);
        }
        now.turnKin(person, dead);
        changes.add(Changes.RELATED, person, dead);
        return now.isKin(person, dead) ? 1 : 0;
    }

    public int leans(int dead, int v) {
        if (noDead(dead)) {
            return refuse(NOBODY);
        }
        if (v < 0) {
            return refuse(BELOW);
        }
        if (v >= FIGURES) {
            return refuse(ROOM);
        }
        int was = now.figures[dead];
        now.figures[dead] = v;
        changes.add(Changes.LEANED, dead, was);
        return was;
    }

    public int learns(int person, int fact) {
        if (noPerson(person) || noFact(fact)) {
            return refuse(NOBODY);
        }
        boolean knew = now.isKnown(person, fact);
        now.teach(person, fact);
        changes.forget();
        return knew ? 0 : 1;
    }

    public int passes() {
        int before = now.knownInAll();
        day.live(now);
        day.leaveKnown(now);
        changes.forget();
        return now.knownInAll() - before;
    }

    public int back() {
        if (changes.size == 0) {
            return refuse(STATE);
        }
        changes.takeBack(now);
        return changes.size;
    }

    // ---- a DAY ----

    public int knows(int person, int n) {
        if (noPerson(person)) {
            return refuse(NOBODY);
        }
        if (n < 0) {
            return refuse(BELOW);
        }
        if (n > HOURS) {
            return refuse(ROOM);
        }
        day.live(now);
        return day.knownBehind(n, person);
    }

    public int through(int dead, int hour) {
        if (noDead(dead) || noHour(hour)) {
            return refuse(NOBODY);
        }
        day.live(now);
        return day.mouth(dead, hour);
    }

    public int speak(int person, int hour) {
        if ((person != -1 && noPerson(person)) || noHour(hour)) {
            return refuse(NOBODY);
        }
        day.live(now);
        if (person == -1) {
            return Integer.bitCount(day.speakers(hour));
        }
        return day.speakersThrough(person, hour);
    }

    public int two(int what) {
        if (noWhat(what, 2)) {
            return refuse(OTHER);
        }
        day.live(now);
        int first = NONE;
        int hours = 0;
        for (int h = 0; h < HOURS; h++) {
            if (day.twoThroughOne(h)) {
                hours++;
                if (first < 0) {
                    first = h;
                }
            }
        }
        return what == 0 ? first : hours;
    }

    public int heard(int person, int fact) {
        if (noPerson(person) || noFact(fact)) {
            return refuse(NOBODY);
        }
        day.live(now);
        return day.heardBehind(person, fact);
    }

    public int spoke(int dead) {
        if (noDead(dead)) {
            return refuse(NOBODY);
        }
        day.live(now);
        return day.timesOf(dead);
    }

    public int told(int fact, int what) {
        if (noFact(fact)) {
            return refuse(NOBODY);
        }
        if (noWhat(what, 2)) {
            return refuse(OTHER);
        }
        day.live(now);
        if (what == 1) {
            return Integer.bitCount(day.knowers(fact));
        }
        int times = 0;
        for (int d = 0; d < now.deadOnes; d++) {
            if (now.tales[d] == fact) {
                times += day.timesOf(d);
            }
        }
        return times;
    }

    public int all() {
        return allOf(now);
    }

    // ---- whom to shut, whom to open, whom to seat ----

    public int never(int person, int fact, int what) {
        if (noPerson(person) || noFact(fact)) {
            return refuse(NOBODY);
        }
        if (noWhat(what, 2)) {
            return refuse(OTHER);
        }
        int set = silencing(person, fact);
        return what == 0 || set < 0 ? set : Integer.bitCount(set);
    }

    private int silencing(int person, int fact) {
        if (now.isKnown(person, fact)) {
            return NONE;
        }
        mind.become(now);
        int best = NONE;
        for (int set = 0; set < 1 << now.people; set++) {
            if ((set & now.shutOnes) == 0 && fewer(set, best)) {
                mind.shutOnes = now.shutOnes | set;
                day.live(mind);
                if ((day.knowers(fact) >> person & 1) == 0) {
                    best = set;
                }
            }
        }
        return best;
    }

    public int just(int fact, int set) {
        if (noFact(fact)) {
            return refuse(NOBODY);
        }
        if (set < 0) {
            return refuse(BELOW);
        }
        if (set >= 1 << now.people) {
            return refuse(ROOM);
        }
        mind.become(now);
        int best = NONE;
        for (int away = 0; away < 1 << now.people; away++) {
            if (fewer(away, best)) {
                mind.shutOnes = away;
                day.live(mind);
                if (day.knowers(fact) == set) {
                    best = away;
                }
            }
        }
        return best;
    }

    public int soonest(int person, int fact) {
        if (noPerson(person) || noFact(fact)) {
            return refuse(NOBODY);
        }
        day.live(now);
        int least = orBeyond(day.heardBehind(person, fact));
        int best = NONE;
        for (int p = 0; p < now.people; p++) {
            mind.become(now);
            mind.openHours[p] = ALL_HOURS;
            mind.shutOnes &= ~(1 << p);
            day.live(mind);
            int heard = orBeyond(day.heardBehind(person, fact));
            if (heard < least) {
                least = heard;
                best = p;
            }
        }
        return best;
    }

    /** Never heard is later than any HOUR of the DAY. */
    private static int orBeyond(int heard) {
        return heard < 0 ? HOURS + 1 : heard;
    }

    public int opening(int person, int what) {
        if (noPerson(person)) {
            return refuse(NOBODY);
        }
        if (noWhat(what, 2)) {
            return refuse(OTHER);
        }
        mind.become(now);
        int best = 0;
        int most = -1;
        for (int h = 0; h < HOURS; h++) {
            mind.openHours[person] = 1 << h;
            int known = allOf(mind);
            if (known > most) {
                most = known;
                best = h;
            }
        }
        return what == 0 ? best : most;
    }

    public int seat() {
        int most = allOf(now);
        int best = NONE;
        for (int a = 0; a < now.people; a++) {
            for (int b = a + 1; b < now.people; b++) {
                mind.become(now);
                mind.changeSeats(a, b);
                int known = allOf(mind);
                if (known > most) {
                    most = known;
                    best = 10 * a + b;
                }
            }
        }
        return best;
    }

    // ---- what can have been said ----

    public int can(int person, int fact, int hour) {
        if (noPerson(person) || noFact(fact) || noHour(hour)) {
            return refuse(NOBODY);
        }
        day.live(now);
        return saidThrough(person, fact, hour) ? 1 : 0;
    }

    private boolean saidThrough(int person, int fact, int hour) {
        int speakers = day.speakersThrough(person, hour);
        for (int d = 0; d < now.deadOnes; d++) {
            if ((speakers >> d & 1) != 0 && now.tales[d] == fact) {
                return true;
            }
        }
        return false;
    }

    public int sham(int person) {
        if (noPerson(person)) {
            return refuse(NOBODY);
        }
        for (int i = 0; i < rowSize; i++) {
            if (rowNumbers[i] > NO_FACT_TOLD) {
                return refuse(STATE);
            }
        }
        day.live(now);
        for (int h = 0; h < rowSize; h++) {
            boolean so = rowNumbers[h] == NO_FACT_TOLD
                    ? day.speakersThrough(person, h) == 0
                    : saidThrough(person, rowNumbers[h], h);
            if (!so) {
                return h;
            }
        }
        return NONE;
    }

    public int who(int person, int n) {
        if (noPerson(person)) {
            return refuse(NOBODY);
        }
        if (n < 0) {
            return refuse(BELOW);
        }
        if (n > HOURS) {
            return refuse(ROOM);
        }
        day.live(now);
        int set = 0;
        for (int d = 0; d < now.deadOnes; d++) {
            if (day.timesThrough(d, person) == n) {
                set |= 1 << d;
            }
        }
        return set;
    }

    public int questions() {
        int asked = 0;
        int tales = 0;
        // One for each FACT is the fewest, the lowest number of each the least.
        for (int d = 0; d < now.deadOnes; d++) {
            int tale = 1 << now.tales[d];
            if ((tales & tale) == 0) {
                tales |= tale;
                asked |= 1 << d;
            }
        }
        return asked;
    }

    public int quarrels(int what) {
        if (noWhat(what, 2)) {
            return refuse(OTHER);
        }
        if (what == 1) {
            return peace();
        }
        day.live(now);
        return quarrelHours();
    }

    private int quarrelHours() {
        int quarrelling = now.ofKind(QUARREL);
        int hours = 0;
        for (int h = 0; h < HOURS; h++) {
            if (Integer.bitCount(day.speakers(h) & quarrelling) >= 2) {
                hours++;
            }
        }
        return hours;
    }

    private int peace() {
        int quarrelling = now.ofKind(QUARREL);
        mind.become(now);
        int best = NONE;
        for (int set = 0; set < 1 << now.deadOnes; set++) {
            if ((set & ~quarrelling) == 0 && fewer(set, best)) {
                mind.away = set;
                day.live(mind);
                if (quarrelHours() == 0) {
                    best = set;
                }
            }
        }
        return best;
    }

    public int silent(int what) {
        if (noWhat(what, 3)) {
            return refuse(OTHER);
        }
        day.live(now);
        int hours = 0;
        int run = 0;
        int longest = 0;
        int from = NONE;
        for (int h = 0; h < HOURS; h++) {
            if (day.speakers(h) != 0) {
                run = 0;
            } else {
                hours++;
                run++;
                if (run > longest) {
                    longest = run;
                    from = h + 1 - run;
                }
            }
        }
        if (what == 0) {
            return hours;
        }
        return what == 1 ? longest : from;
    }

    // ---- chance, lists, told hours ----

    public long colds(int person, int fact, int t, int part) {
        if (noPerson(person) || noFact(fact)) {
            return refuseLong(NOBODY);
        }
        if (t < 2) {
            return refuseLong(BELOW);
        }
        if (t > 20) {
            return refuseLong(ROOM);
        }
        if (noWhat(part, 2)) {
            return refuseLong(OTHER);
        }
        mind.become(now);
        int well = now.people - Integer.bitCount(now.shutOnes);
        long above = 0;
        for (int set = 0; set < 1 << now.people; set++) {
            if ((set & now.shutOnes) == 0) {
                mind.shutOnes = now.shutOnes | set;
                day.live(mind);
                if ((day.knowers(fact) >> person & 1) != 0) {
                    above += power(t - 1, well - Integer.bitCount(set));
                }
            }
        }
        return partOf(above, power(t, well), part);
    }

    /** At most 20 to the 7th. */
    private static long power(int base, int exponent) {
        long product = 1;
        for (int i = 0; i < exponent && i < PEOPLE_MOST; i++) {
            product *= base;
        }
        return product;
    }

    /** A part of a fraction in lowest terms: 0 is above the line, 1 below. */
    private static long partOf(long above, long below, int part) {
        long a = below;
        long b = above;
        // Every second step halves the rest.
        for (int i = 0; i < 128 && b > 0; i++) {
            long rest = a % b;
            a = b;
            b = rest;
        }
        if (above == 0 || a <= 0) {
            return part;
        }
        return part == 0 ? above / a : below / a;
    }

    public int list(int person, int what) {
        if (noPerson(person)) {
            return refuse(NOBODY);
        }
        if (noWhat(what, 2)) {
            return refuse(OTHER);
        }
        day.live(now);
        int bits = day.knownBehind(HOURS, person) & ~now.facts[person];
        if (what == 0) {
            return bits;
        }
        int last = NONE;
        for (int fact = 0; fact < FACTS; fact++) {
            if ((bits >> fact & 1) != 0) {
                last = Math.max(last, day.heardBehind(person, fact));
            }
        }
        return last;
    }

    public int days(int person) {
        if (person != -1 && noPerson(person)) {
            return refuse(NOBODY);
        }
        mind.become(now);
        int changing = 0;
        // Each DAY that changes something adds at least one of 7 times 10.
        while (changing < DAYS_MOST && dayChanges(mind)) {
            changing++;
        }
        return person == -1 ? changing : mind.facts[person];
    }

    /** A DAY passes for a family in mind: whether anybody KNOWS more then. */
    private boolean dayChanges(Family family) {
        int before = family.knownInAll();
        day.live(family);
        day.leaveKnown(family);
        return family.knownInAll() != before;
    }

    public int needed() {
        int known = allOf(now);
        mind.become(now);
        int set = 0;
        for (int d = 0; d < now.deadOnes; d++) {
            mind.away = 1 << d;
            if (allOf(mind) < known) {
                set |= 1 << d;
            }
        }
        return set;
    }

    public int loudest(int what) {
        if (noWhat(what, 2)) {
            return refuse(OTHER);
        }
        day.live(now);
        int best = NONE;
        int most = 0;
        for (int p = 0; p < now.people; p++) {
            int times = 0;
            for (int d = 0; d < now.deadOnes; d++) {
                times += day.timesThrough(d, p);
            }
            if (times > most) {
                most = times;
                best = p;
            }
        }
        return what == 0 ? best : most;
    }

    public int narrow(int person, int what) {
        if (noPerson(person)) {
            return refuse(NOBODY);
        }
        if (noWhat(what, 2)) {
            return refuse(OTHER);
        }
        int known = allOf(now);
        mind.become(now);
        int hours = 0;
        int first = NONE;
        for (int h = 0; h < HOURS; h++) {
            if (now.isOpen(person, h)) {
                mind.openHours[person] = now.openHours[person] & ~(1 << h);
                if (allOf(mind) == known) {
                    hours++;
                    if (first < 0) {
                        first = h;
                    }
                }
            }
        }
        return what == 0 ? hours : first;
    }

    public int key() {
        int best = 0;
        int most = -1;
        for (int fact = 0; fact < FACTS; fact++) {
            mind.become(now);
            for (int p = 0; p < now.people; p++) {
                mind.teach(p, fact);
            }
            int known = allOf(mind);
            if (known > most) {
                most = known;
                best = fact;
            }
        }
        return best;
    }

    public int half() {
        int known = allOf(now);
        for (int n = 0; n < HOURS; n++) {
            if (2 * day.knownInAllBehind(n) >= known) {
                return n;
            }
        }
        return HOURS;
    }

    public int turned() {
        mind.become(now);
        for (int p = 0; p < now.people; p++) {
            int hours = 0;
            for (int h = 0; h < HOURS; h++) {
                if (now.isOpen(p, h)) {
                    hours |= 1 << (HOURS - 1 - h);
                }
            }
            mind.openHours[p] = hours;
        }
        return allOf(mind);
    }

    public int twin() {
        day.live(now);
        int best = NONE;
        int most = 0;
        for (int a = 0; a < now.deadOnes; a++) {
            for (int b = a + 1; b < now.deadOnes; b++) {
                int times = day.timesTogether(a, b);
                if (times > most) {
                    most = times;
                    best = 10 * a + b;
                }
            }
        }
        return best;
    }

    // ---- IV. ----

    public int spreads(int person, int fact) {
        if (noPerson(person) || noFact(fact)) {
            return refuse(NOBODY);
        }
        mind.become(now);
        for (int passed = 0; passed <= DAYS_MOST; passed++) {
            if (mind.isKnown(person, fact)) {
                return passed;
            }
            if (!dayChanges(mind)) {
                return NONE;
            }
        }
        return NONE;
    }

    public int keeper(int what) {
        if (noWhat(what, 2)) {
            return refuse(OTHER);
        }
        mind.become(now);
        int best = NONE;
        int least = NONE;
        for (int p = 0; p < now.people; p++) {
            mind.shutOnes = now.shutOnes | 1 << p;
            int known = allOf(mind);
            if (best < 0 || known < least) {
                least = known;
                best = p;
            }
        }
        return what == 0 ? best : least;
    }

    public int openings(int person, int what) {
        if (noPerson(person)) {
            return refuse(NOBODY);
        }
        if (noWhat(what, 2)) {
            return refuse(OTHER);
        }
        int known = allOf(now);
        mind.become(now);
        int hours = 0;
        int first = NONE;
        for (int h = 0; h < HOURS; h++) {
            if (!now.isOpen(person, h)) {
                mind.openHours[person] = now.openHours[person] | 1 << h;
                if (allOf(mind) > known) {
                    hours++;
                    if (first < 0) {
                        first = h;
                    }
                }
            }
        }
        return what == 0 ? hours : first;
    }

    public int dinner(int k, int what) {
        if (k < 1) {
            return refuse(BELOW);
        }
        if (k > 12) {
            return refuse(ROOM);
        }
        if (noWhat(what, 2)) {
            return refuse(OTHER);
        }
        day.live(now);
        int best = NONE;
        int least = 0;
        for (int from = 0; from <= HOURS - k; from++) {
            int speaking = 0;
            for (int h = from; h < from + k; h++) {
                speaking += Integer.bitCount(day.speakers(h));
            }
            if (best < 0 || speaking < least) {
                least = speaking;
                best = from;
            }
        }
        return what == 0 ? best : least;
    }

    public long share(int dead, int part) {
        if (noDead(dead)) {
            return refuseLong(NOBODY);
        }
        if (noWhat(part, 2)) {
            return refuseLong(OTHER);
        }
        day.live(now);
        int speaking = 0;
        for (int d = 0; d < now.deadOnes; d++) {
            speaking += day.timesOf(d);
        }
        return partOf(day.timesOf(dead), speaking, part);
    }

    public int bridge() {
        mind.become(now);
        int best = NONE;
        int least = 0;
        for (int a = 0; a < now.deadOnes; a++) {
            for (int b = a + 1; b < now.deadOnes; b++) {
                mind.away = 1 << a | 1 << b;
                int known = allOf(mind);
                if (best < 0 || known < least) {
                    least = known;
                    best = 10 * a + b;
                }
            }
        }
        return best;
    }

    public int heir(int dead) {
        if (noDead(dead)) {
            return refuse(NOBODY);
        }
        mind.become(now);
        int best = 0;
        int most = -1;
        for (int figure = 0; figure < FIGURES; figure++) {
            mind.figures[dead] = figure;
            day.live(mind);
            int times = day.timesOf(dead);
            if (times > most) {
                most = times;
                best = figure;
            }
        }
        return best;
    }

    public int secret() {
        day.live(now);
        return day.knownTogether((1 << now.people) - 1) & ~day.knownToEach();
    }

    public int synod() {
        day.live(now);
        int everybody = (1 << now.people) - 1;
        int all = day.knownTogether(everybody);
        int best = everybody;
        for (int set = 0; set < everybody; set++) {
            if (fewer(set, best) && day.knownTogether(set) == all) {
                best = set;
            }
        }
        return best;
    }

    // ---- the ROW, lots, the image ----

    public int row(int v) {
        if (v < 0) {
            return refuse(BELOW);
        }
        if (v > 99 || rowSize >= ROW_MOST) {
            return refuse(ROOM);
        }
        rowNumbers[rowSize] = v;
        rowSize++;
        return rowSize;
    }

    public int judge() {
        day.live(now);
        int wrong = NONE;
        for (int h = 0; h < rowSize && wrong < 0; h++) {
            if (rowNumbers[h] != Integer.bitCount(day.speakers(h))) {
                wrong = h;
            }
        }
        rowSize = 0;
        return wrong;
    }

    public int clear() {
        int had = rowSize;
        rowSize = 0;
        return had;
    }

    public int lots(int n, int z, int what) {
        if (n < 1) {
            return refuse(BELOW);
        }
        if (n > 20) {
            return refuse(ROOM);
        }
        if (noWhat(what, 2)) {
            return refuse(OTHER);
        }
        mind.become(now);
        int seed = z;
        int known = 0;
        int common = 0;
        for (int i = 0; i < n; i++) {
            for (int p = 0; p < now.people; p++) {
                seed = nextSeed(seed);
                int one = drawnHour(seed);
                seed = nextSeed(seed);
                int other = drawnHour(seed);
                mind.openHours[p] = hoursFrom(Math.min(one, other), Math.max(one, other));
            }
            known += allOf(mind);
            if (day.knownToEach() != 0) {
                common++;
            }
        }
        return what == 0 ? known : common;
    }

    private static int nextSeed(int z) {
        return z * 1103515245 + 12345;
    }

    private static int drawnHour(int z) {
        return (z & 0x7fffffff) / 65536 % HOURS;
    }

    /** The HOURS from one to another, both among them, as bits. */
    private static int hoursFrom(int first, int last) {
        return (1 << (last + 1)) - (1 << first);
    }

    public int image() {
        picture.become(now);
        pictured = true;
        return picture.people;
    }

    public int restore() {
        if (!pictured) {
            return refuse(STATE);
        }
        now.become(picture);
        changes.forget();
        return now.people;
    }

    public int count(int what) {
        switch (what) {
            case 0:
                return now.people;
            case 1:
                return now.deadOnes;
            case 2:
                return Integer.bitCount(now.shutOnes);
            case 3:
                return now.openInAll();
            case 4:
                return now.knownInAll();
            case 5:
                return letters.size;
            case 6:
                return rowSize;
            case 7:
                return changes.size;
            default:
                return what >= 11 && what <= 16 ? refusals[what - 10] : NONE;
        }
    }

    // ---- helpers ----

    private int refuse(int number) {
        if (number < 0 && -number < refusals.length) {
            refusals[-number]++;
        }
        return number;
    }

    private long refuseLong(int number) {
        return LONG_REFUSAL - refuse(number);
    }

    private boolean noPerson(int person) {
        return person < 0 || person >= now.people;
    }

    private boolean noDead(int dead) {
        return dead < 0 || dead >= now.deadOnes;
    }

    private static boolean noHour(int hour) {
        return hour < 0 || hour >= HOURS;
    }

    private static boolean noFact(int fact) {
        return fact < 0 || fact >= FACTS;
    }

    private static boolean noWhat(int what, int many) {
        return what < 0 || what >= many;
    }

    /** Sets come rising, so that of several as few the first is the least. */
    private static boolean fewer(int set, int best) {
        return best < 0 || Integer.bitCount(set) < Integer.bitCount(best);
    }

    private int allOf(Family family) {
        day.live(family);
        return day.knownInAllBehind(HOURS);
    }

    /** PEOPLE round the table and their DEAD: all that an image holds. */
    private static final class Family {
        private int people;
        private int deadOnes;
        private int shutOnes;
        /** DEAD who are away: in mind only. */
        private int away;
        private final int[] kinOf = new int[PEOPLE_MOST];
        private final int[] openHours = new int[PEOPLE_MOST];
        private final int[] facts = new int[PEOPLE_MOST];
        private final int[] kinds = new int[DEAD_MOST];
        private final int[] figures = new int[DEAD_MOST];
        private final int[] tales = new int[DEAD_MOST];

        private void become(Family other) {
            people = other.people;
            deadOnes = other.deadOnes;
            shutOnes = other.shutOnes;
            away = 0;
            System.arraycopy(other.kinOf, 0, kinOf, 0, PEOPLE_MOST);
            System.arraycopy(other.openHours, 0, openHours, 0, PEOPLE_MOST);
            System.arraycopy(other.facts, 0, facts, 0, PEOPLE_MOST);
            System.arraycopy(other.kinds, 0, kinds, 0, DEAD_MOST);
            System.arraycopy(other.figures, 0, figures, 0, DEAD_MOST);
            System.arraycopy(other.tales, 0, tales, 0, DEAD_MOST);
        }

        private boolean addPerson(int kin) {
            if (kin < 0 || kin > KIN_MOST || people >= PEOPLE_MOST) {
                return false;
            }
            kinOf[people] = kin;
            openHours[people] = 0;
            facts[people] = 0;
            shutOnes &= ~(1 << people);
            people++;
            return true;
        }

        private boolean addDead(int kind, int figure, int fact) {
            boolean inRange = kind >= 0 && kind < KINDS
                    && figure >= 0 && figure < FIGURES && fact >= 0 && fact < FACTS;
            if (!inRange || deadOnes >= DEAD_MOST) {
                return false;
            }
            kinds[deadOnes] = kind;
            figures[deadOnes] = figure;
            tales[deadOnes] = fact;
            deadOnes++;
            return true;
        }

        private boolean openFrom(int person, int first, int last, boolean opened) {
            if (person < 0 || person >= people || first < 0 || first > last || last >= HOURS) {
                return false;
            }
            int hours = hoursFrom(first, last);
            openHours[person] = opened ? openHours[person] | hours : openHours[person] & ~hours;
            return true;
        }

        private void turnOpen(int person, int hour) {
            if (person >= 0 && person < people) {
                openHours[person] ^= 1 << hour;
            }
        }

        private boolean turnShut(int person) {
            if (person < 0 || person >= people) {
                return false;
            }
            shutOnes ^= 1 << person;
            return true;
        }

        private void turnKin(int person, int dead) {
            if (person >= 0 && person < people) {
                kinOf[person] ^= 1 << dead;
            }
        }

        private boolean teach(int person, int fact) {
            if (person < 0 || person >= people) {
                return false;
            }
            facts[person] |= 1 << fact;
            return true;
        }

        private boolean isOpen(int person, int hour) {
            return person >= 0 && person < people && (openHours[person] >> hour & 1) != 0;
        }

        private boolean isShut(int person) {
            return (shutOnes >> person & 1) != 0;
        }

        private boolean isKin(int person, int dead) {
            return person >= 0 && person < people && (kinOf[person] >> dead & 1) != 0;
        }

        private boolean isKnown(int person, int fact) {
            return person >= 0 && person < people && (facts[person] >> fact & 1) != 0;
        }

        private int knownInAll() {
            int known = 0;
            for (int p = 0; p < people; p++) {
                known += Integer.bitCount(facts[p]);
            }
            return known;
        }

        private int openInAll() {
            int hours = 0;
            for (int p = 0; p < people; p++) {
                hours += Integer.bitCount(openHours[p]);
            }
            return hours;
        }

        private int ofKind(int kind) {
            int set = 0;
            for (int d = 0; d < deadOnes; d++) {
                if (kinds[d] == kind) {
                    set |= 1 << d;
                }
            }
            return set;
        }

        private void changeSeats(int a, int b) {
            if (a < 0 || a >= people || b < 0 || b >= people) {
                return;
            }
            swap(kinOf, a, b);
            swap(openHours, a, b);
            swap(facts, a, b);
            if (isShut(a) != isShut(b)) {
                shutOnes ^= 1 << a | 1 << b;
            }
        }

        private static void swap(int[] ofAll, int a, int b) {
            int kept = ofAll[a];
            ofAll[a] = ofAll[b];
            ofAll[b] = kept;
        }

        /** Those beside any of a set. One alone has himself on both sides: nobody. */
        private int beside(int set) {
            if (people < 2) {
                return 0;
            }
            int right = set << 1 | set >> (people - 1);
            int left = set >> 1 | set << (people - 1);
            return (right | left) & ((1 << people) - 1);
        }

        /** Through whom one of DEAD could speak if all were OPEN. */
        private int mouthsFor(int dead) {
            if (dead < 0 || dead >= deadOnes || (away >> dead & 1) != 0) {
                return 0;
            }
            int set = 0;
            for (int p = 0; p < people; p++) {
                if (!isShut(p) && (kinds[dead] == HISSING || isKin(p, dead))) {
                    set |= 1 << p;
                }
            }
            return set;
        }

        private int openIn(int hour) {
            int set = 0;
            for (int p = 0; p < people; p++) {
                if ((openHours[p] >> hour & 1) != 0) {
                    set |= 1 << p;
                }
            }
            return set;
        }

        /** Whether the HOUR itself lets one of DEAD speak. */
        private boolean isHisHour(int dead, int hour) {
            if (dead < 0 || dead >= deadOnes) {
                return false;
            }
            switch (kinds[dead]) {
                case UNCLE:
                case QUARREL:
                    return (hour + figures[dead] & 1) == 0;
                case GOLDEN:
                    return hour >= GOLDEN_FROM;
                default:
                    return true;
            }
        }

        private int firstFrom(int figure, int set) {
            if (set == 0 || people < 1) {
                return NONE;
            }
            for (int i = 0; i < people; i++) {
                int p = (figure + i) % people;
                if ((set >> p & 1) != 0) {
                    return p;
                }
            }
            return NONE;
        }
    }

    /** A DAY that a family lived through: who spoke through whom, and what each knew behind each HOUR. */
    private static final class Day {
        private int people;
        private int deadOnes;
        private final int[] mouthsFor = new int[DEAD_MOST];
        private final int[] mouths = new int[HOURS * DEAD_MOST];
        private final int[] known = new int[(HOURS + 1) * PEOPLE_MOST];

        private void live(Family family) {
            people = family.people;
            deadOnes = family.deadOnes;
            System.arraycopy(family.facts, 0, known, 0, PEOPLE_MOST);
            for (int d = 0; d < deadOnes; d++) {
                mouthsFor[d] = family.mouthsFor(d);
            }
            for (int h = 0; h < HOURS; h++) {
                liveHour(family, h, family.openIn(h));
            }
        }

        private void liveHour(Family family, int hour, int opened) {
            System.arraycopy(known, hour * PEOPLE_MOST, known, (hour + 1) * PEOPLE_MOST, PEOPLE_MOST);
            int once = 0;
            int twice = 0;
            for (int d = 0; d < deadOnes; d++) {
                int kind = family.kinds[d];
                int fact = family.tales[d];
                int may = opened & mouthsFor[d] & ~(kind == QUARREL ? twice : once);
                if (may != 0 && !family.isHisHour(d, hour)) {
                    may = 0;
                }
                if (may != 0 && (kind == BRIDE || kind == GOLDEN)) {
                    may &= family.beside(lackers(hour, fact));
                }
                int who = family.firstFrom(family.figures[d], may);
                mouths[hour * DEAD_MOST + d] = who;
                if (who >= 0) {
                    int bit = 1 << who;
                    twice |= once & bit;
                    once |= bit;
                    tell(hour + 1, family.beside(bit), fact);
                }
            }
        }

        /** Who does not KNOW a FACT behind n HOURS. */
        private int lackers(int n, int fact) {
            int set = 0;
            for (int p = 0; p < people; p++) {
                if ((knownBehind(n, p) >> fact & 1) == 0) {
                    set |= 1 << p;
                }
            }
            return set;
        }

        private void tell(int n, int hearers, int fact) {
            for (int p = 0; p < people; p++) {
                if ((hearers >> p & 1) != 0) {
                    known[n * PEOPLE_MOST + p] |= 1 << fact;
                }
            }
        }

        private void leaveKnown(Family family) {
            System.arraycopy(known, HOURS * PEOPLE_MOST, family.facts, 0, PEOPLE_MOST);
        }

        private int knownBehind(int n, int person) {
            if (n < 0 || n > HOURS || person < 0 || person >= people) {
                return 0;
            }
            return known[n * PEOPLE_MOST + person];
        }

        private int knownInAllBehind(int n) {
            int sum = 0;
            for (int p = 0; p < people; p++) {
                sum += Integer.bitCount(knownBehind(n, p));
            }
            return sum;
        }

        /** What those of a set KNOW together at the end. */
        private int knownTogether(int set) {
            int bits = 0;
            for (int p = 0; p < people; p++) {
                if ((set >> p & 1) != 0) {
                    bits |= knownBehind(HOURS, p);
                }
            }
            return bits;
        }

        /** What each one KNOWS at the end; nothing where there is nobody. */
        private int knownToEach() {
            int bits = people > 0 ? (1 << FACTS) - 1 : 0;
            for (int p = 0; p < people; p++) {
                bits &= knownBehind(HOURS, p);
            }
            return bits;
        }

        /** Who KNOWS a FACT at the end. */
        private int knowers(int fact) {
            return ((1 << people) - 1) & ~lackers(HOURS, fact);
        }

        private int heardBehind(int person, int fact) {
            for (int n = 0; n <= HOURS; n++) {
                if ((knownBehind(n, person) >> fact & 1) != 0) {
                    return n;
                }
            }
            return NONE;
        }

        private int mouth(int dead, int hour) {
            if (dead < 0 || dead >= deadOnes || hour < 0 || hour >= HOURS) {
                return NONE;
            }
            return mouths[hour * DEAD_MOST + dead];
        }

        private int speakers(int hour) {
            int set = 0;
            for (int d = 0; d < deadOnes; d++) {
                if (mouth(d, hour) >= 0) {
                    set |= 1 << d;
                }
            }
            return set;
        }

        private int speakersThrough(int person, int hour) {
            int set = 0;
            for (int d = 0; d < deadOnes; d++) {
                if (mouth(d, hour) == person) {
                    set |= 1 << d;
                }
            }
            return set;
        }

        private boolean twoThroughOne(int hour) {
            for (int p = 0; p < people; p++) {
                if (Integer.bitCount(speakersThrough(p, hour)) >= 2) {
                    return true;
                }
            }
            return false;
        }

        private int timesOf(int dead) {
            int times = 0;
            for (int h = 0; h < HOURS; h++) {
                if (mouth(dead, h) >= 0) {
                    times++;
                }
            }
            return times;
        }

        private int timesThrough(int dead, int person) {
            int times = 0;
            for (int h = 0; h < HOURS; h++) {
                if (mouth(dead, h) == person) {
                    times++;
                }
            }
            return times;
        }

        private int timesTogether(int a, int b) {
            int times = 0;
            for (int h = 0; h < HOURS; h++) {
                if (mouth(a, h) >= 0 && mouth(b, h) >= 0) {
                    times++;
                }
            }
            return times;
        }
    }

    /** What can be TAKEN BACK, the latest last. */
    private static final class Changes {
        private static final int OPENED = 0;
        private static final int SHUT = 1;
        private static final int RELATED = 2;
        private static final int LEANED = 3;

        private int size;
        private final int[] sorts = new int[BACK_MOST];
        private final int[] whose = new int[BACK_MOST];
        private final int[] values = new int[BACK_MOST];

        private void forget() {
            size = 0;
        }

        private void add(int sort, int one, int value) {
            if (size >= BACK_MOST) {
                System.arraycopy(sorts, 1, sorts, 0, BACK_MOST - 1);
                System.arraycopy(whose, 1, whose, 0, BACK_MOST - 1);
                System.arraycopy(values, 1, values, 0, BACK_MOST - 1);
                size = BACK_MOST - 1;
            }
            sorts[size] = sort;
            whose[size] = one;
            values[size] = value;
            size++;
        }

        private void takeBack(Family family) {
            if (size < 1) {
                return;
            }
            size--;
            int one = whose[size];
            int value = values[size];
            switch (sorts[size]) {
                case OPENED:
                    family.turnOpen(one, value);
                    break;
                case SHUT:
                    family.turnShut(one);
                    break;
                case RELATED:
                    family.turnKin(one, value);
                    break;
                default:
                    if (one >= 0 && one < family.deadOnes) {
                        family.figures[one] = value;
                    }
                    break;
            }
        }
    }

    /** The letters of a FAMILY, as they are told. */
    private static final class Letters {
        private int size;
        private final int[] signs = new int[LETTERS_MOST];

        private int add(int letter) {
            if (size < LETTERS_MOST) {
                signs[size] = letter;
                size++;
            }
            return size;
        }

        private int sign(int at) {
            return at >= 0 && at < size ? signs[at] : -1;
        }

        /** How many digits stand behind a first letter; -1 if it is none. */
        private int digitsBehind(int letter) {
            switch (letter) {
                case 's':
                    return 1;
                case 'p':
                case 'k':
                    return 2;
                case 'd':
                    return 3;
                case 'o':
                case 'c':
                    return 5;
                default:
                    return -1;
            }
        }

        private boolean isDigit(int at) {
            return sign(at) >= '0' && sign(at) <= '9';
        }

        /** The place of a FAULT of kind 1; -1 if there is none. */
        private int brokenAt() {
            if (size == 0) {
                return 0;
            }
            int at = 0;
            while (at < size) {
                int digits = digitsBehind(sign(at));
                if (digits < 0) {
                    return at;
                }
                at++;
                for (int i = 0; i < digits; i++) {
                    if (!isDigit(at)) {
                        return at;
                    }
                    at++;
                }
                if (sign(at) != ';') {
                    return at;
                }
                at++;
            }
            return -1;
        }

        /** Where the STATEMENT behind the one at a place begins. */
        private int behind(int at) {
            return at + digitsBehind(sign(at)) + 2;
        }

        private int digit(int at) {
            return sign(at) - '0';
        }

        private int pair(int at) {
            return 10 * digit(at) + digit(at + 1);
        }

        /** Whether the STATEMENT at a place is as it must be; if so, it comes. */
        private boolean tellStatement(int at, Family family) {
            switch (sign(at)) {
                case 'p':
                    return family.addPerson(pair(at + 1));
                case 'd':
                    return family.addDead(digit(at + 1), digit(at + 2), digit(at + 3));
                case 'o':
                    return family.openFrom(digit(at + 1), pair(at + 2), pair(at + 4), true);
                case 'c':
                    return family.openFrom(digit(at + 1), pair(at + 2), pair(at + 4), false);
                case 's':
                    return family.turnShut(digit(at + 1));
                case 'k':
                    return family.teach(digit(at + 1), digit(at + 2));
                default:
                    return false;
            }
        }
    }
}
