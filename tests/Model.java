import java.util.ArrayDeque;
import java.util.ArrayList;
import java.util.Arrays;
import java.util.List;

/**
 * The document once more, in the plainest way and with none of the program's short cuts:
 * what ModelTest compares the program with.
 */
final class Model {
    static final class Human implements Cloneable {
        int kin;
        boolean[] open = new boolean[24];
        boolean shut;
        boolean[] knows = new boolean[10];

        Human copy() {
            Human h = new Human();
            h.kin = kin;
            h.open = open.clone();
            h.shut = shut;
            h.knows = knows.clone();
            return h;
        }
    }

    static final class Ghost {
        int kind;
        int figure;
        int fact;
        boolean away;

        Ghost copy() {
            Ghost g = new Ghost();
            g.kind = kind;
            g.figure = figure;
            g.fact = fact;
            return g;
        }
    }

    static final class World {
        List<Human> humans = new ArrayList<>();
        List<Ghost> ghosts = new ArrayList<>();

        World copy() {
            World w = new World();
            for (Human h : humans) {
                w.humans.add(h.copy());
            }
            for (Ghost g : ghosts) {
                w.ghosts.add(g.copy());
            }
            return w;
        }

        int now() {
            int sum = 0;
            for (Human h : humans) {
                sum += Integer.bitCount(bits(h.knows));
            }
            return sum;
        }

        List<Integer> beside(int p) {
            int n = humans.size();
            if (n == 1) {
                return List.of();
            }
            if (n == 2) {
                return List.of(1 - p);
            }
            return List.of((p + 1) % n, (p + n - 1) % n);
        }

        Played play() {
            Played out = new Played();
            out.world = this;
            boolean[][] known = new boolean[humans.size()][];
            for (int p = 0; p < humans.size(); p++) {
                known[p] = humans.get(p).knows.clone();
            }
            out.known.add(deep(known));
            for (int h = 0; h < 24; h++) {
                int[] who = new int[ghosts.size()];
                boolean[][] next = deep(known);
                for (int d = 0; d < ghosts.size(); d++) {
                    who[d] = -9;
                    Ghost g = ghosts.get(d);
                    if (g.away) {
                        continue;
                    }
                    int n = humans.size();
                    for (int i = 0; i < n && who[d] == -9; i++) {
                        int p = (g.figure % n + i) % n;
                        if (may(d, p, h, who, known)) {
                            who[d] = p;
                        }
                    }
                    if (who[d] >= 0) {
                        for (int q : beside(who[d])) {
                            next[q][g.fact] = true;
                        }
                    }
                }
                known = next;
                out.who.add(who);
                out.known.add(deep(known));
            }
            return out;
        }

        private boolean may(int d, int p, int h, int[] who, boolean[][] known) {
            Ghost g = ghosts.get(d);
            Human one = humans.get(p);
            int speaking = 0;
            for (int e = 0; e < d; e++) {
                if (who[e] == p) {
                    speaking++;
                }
            }
            boolean related = (one.kin & (int) Math.pow(2, d)) != 0;
            boolean plain = one.open[h] && !one.shut;
            boolean even = (h + g.figure) % 2 == 0;
            boolean somebodyLacks = false;
            for (int q : beside(p)) {
                somebodyLacks |= !known[q][g.fact];
            }
            switch (g.kind) {
                case 0:
                    return related && plain && speaking == 0;
                case 1:
                    return related && plain && speaking == 0 && even;
                case 2:
                    return related && plain && speaking == 0 && somebodyLacks;
                case 3:
                    return related && plain && speaking <= 1 && even;
                case 4:
                    return related && plain && speaking == 0 && somebodyLacks && h >= 12;
                default:
                    return plain && speaking == 0;
            }
        }
    }

    static final class Played {
        World world;
        List<int[]> who = new ArrayList<>();
        List<boolean[][]> known = new ArrayList<>();

        int knows(int n, int p) {
            return bits(known.get(n)[p]);
        }

        int all(int n) {
            int sum = 0;
            for (int p = 0; p < world.humans.size(); p++) {
                sum += Integer.bitCount(knows(n, p));
            }
            return sum;
        }

        int all() {
            return all(24);
        }

        int heard(int p, int f) {
            for (int n = 0; n <= 24; n++) {
                if (known.get(n)[p][f]) {
                    return n;
                }
            }
            return -9;
        }

        int speakers(int h) {
            int c = 0;
            for (int w : who.get(h)) {
                if (w != -9) {
                    c++;
                }
            }
            return c;
        }

        int bitsThrough(int p, int h) {
            int b = 0;
            for (int d = 0; d < who.get(h).length; d++) {
                if (who.get(h)[d] == p) {
                    b += 1 << d;
                }
            }
            return b;
        }

        int spoke(int d) {
            int c = 0;
            for (int[] w : who) {
                if (w[d] != -9) {
                    c++;
                }
            }
            return c;
        }
    }

    static boolean[][] deep(boolean[][] a) {
        boolean[][] b = new boolean[a.length][];
        for (int i = 0; i < a.length; i++) {
            b[i] = a[i].clone();
        }
        return b;
    }

    static int bits(boolean[] a) {
        int b = 0;
        for (int i = 0; i < a.length; i++) {
            if (a[i]) {
                b += 1 << i;
            }
        }
        return b;
    }

    World w = new World();
    World image;
    ArrayDeque<World> undo = new ArrayDeque<>();
    List<Integer> row = new ArrayList<>();
    StringBuilder text = new StringBuilder();
    int[] refused = new int[7];

    private int no(int code) {
        refused[-code]++;
        return code;
    }

    private boolean badP(int p) {
        return p < 0 || p >= w.humans.size();
    }

    private boolean badD(int d) {
        return d < 0 || d >= w.ghosts.size();
    }

    private boolean badH(int h) {
        return h < 0 || h > 23;
    }

    private boolean badF(int f) {
        return f < 0 || f > 9;
    }

    private boolean bad(int what, int last) {
        return what < 0 || what > last;
    }

    private void remember() {
        undo.addLast(w.copy());
        if (undo.size() > 8) {
            undo.removeFirst();
        }
    }

    /** Sets in the order of how few, then of the least. */
    static List<Integer> sets(int n) {
        List<Integer> all = new ArrayList<>();
        for (int s = 0; s < 1 << n; s++) {
            all.add(s);
        }
        all.sort((a, b) -> Integer.bitCount(a) != Integer.bitCount(b)
                ? Integer.bitCount(a) - Integer.bitCount(b) : a - b);
        return all;
    }

    int feed(int letter) {
        if (letter < 0) {
            return no(-4);
        }
        if (letter > 255 || text.length() == 96) {
            return no(-6);
        }
        text.append((char) letter);
        return text.length();
    }

    int family() {
        String all = text.toString();
        text.setLength(0);
        int at = 0;
        String form = "";
        List<Integer> starts = new ArrayList<>();
        // The longest beginning that fits the statements' forms, sign by sign.
        while (true) {
            if (form.isEmpty()) {
                if (at == all.length() && at > 0) {
                    break;
                }
                starts.add(at);
                if (at == all.length()) {
                    return -1000 - at;
                }
                int which = "pdocsk".indexOf(all.charAt(at));
                if (which < 0) {
                    return -1000 - at;
                }
                form = new String[] {"##;", "###;", "#####;", "#####;", "#;", "##;"}[which];
                at++;
            } else {
                if (at == all.length()) {
                    return -1000 - at;
                }
                char c = all.charAt(at);
                boolean fits = form.charAt(0) == ';' ? c == ';' : c >= '0' && c <= '9';
                if (!fits) {
                    return -1000 - at;
                }
                form = form.substring(1);
                at++;
            }
        }
        World v = w.copy();
        for (int i = 0; i < starts.size(); i++) {
            int end = i + 1 < starts.size() ? starts.get(i + 1) : all.length();
            if (!say(v, all.substring(starts.get(i), end - 1))) {
                return -2000 - starts.get(i);
            }
        }
        w = v;
        undo.clear();
        return starts.size();
    }

    private static boolean say(World v, String s) {
        String rest = s.substring(1);
        if (s.charAt(0) == 'p') {
            Human h = new Human();
            h.kin = Integer.parseInt(rest);
            if (h.kin > 63 || v.humans.size() == 7) {
                return false;
            }
            v.humans.add(h);
            return true;
        }
        if (s.charAt(0) == 'd') {
            Ghost g = new Ghost();
            g.kind = rest.charAt(0) - '0';
            g.figure = rest.charAt(1) - '0';
            g.fact = rest.charAt(2) - '0';
            if (g.kind > 5 || v.ghosts.size() == 6) {
                return false;
            }
            v.ghosts.add(g);
            return true;
        }
        int p = rest.charAt(0) - '0';
        if (p >= v.humans.size()) {
            return false;
        }
        Human h = v.humans.get(p);
        if (s.charAt(0) == 's') {
            h.shut = !h.shut;
        } else if (s.charAt(0) == 'k') {
            h.knows[rest.charAt(1) - '0'] = true;
        } else {
            int a = Integer.parseInt(rest.substring(1, 3));
            int b = Integer.parseInt(rest.substring(3, 5));
            if (a > b || b > 23) {
                return false;
            }
            Arrays.fill(h.open, a, b + 1, s.charAt(0) == 'o');
        }
        return true;
    }

    int person(int p, int what) {
        if (badP(p)) {
            return no(-1);
        }
        if (bad(what, 3)) {
            return no(-2);
        }
        Human h = w.humans.get(p);
        return new int[] {h.kin, bits(h.open), h.shut ? 1 : 0, bits(h.knows)}[what];
    }

    int dead(int d, int what) {
        if (badD(d)) {
            return no(-1);
        }
        if (bad(what, 2)) {
            return no(-2);
        }
        Ghost g = w.ghosts.get(d);
        return new int[] {g.kind, g.figure, g.fact}[what];
    }

    int comes(int kin) {
        if (kin < 0) {
            return no(-4);
        }
        if (kin > 63 || w.humans.size() == 7) {
            return no(-6);
        }
        Human h = new Human();
        h.kin = kin;
        w.humans.add(h);
        undo.clear();
        return w.humans.size() - 1;
    }

    int dies(int kind, int figure, int fact) {
        if (bad(kind, 5)) {
            return no(-2);
        }
        if (figure < 0 || fact < 0) {
            return no(-4);
        }
        if (figure > 9 || fact > 9 || w.ghosts.size() == 6) {
            return no(-6);
        }
        Ghost g = new Ghost();
        g.kind = kind;
        g.figure = figure;
        g.fact = fact;
        w.ghosts.add(g);
        undo.clear();
        return w.ghosts.size() - 1;
    }

    int open(int p, int h) {
        if (badP(p) || badH(h)) {
            return no(-1);
        }
        remember();
        boolean is = !w.humans.get(p).open[h];
        w.humans.get(p).open[h] = is;
        return is ? 1 : 0;
    }

    int shut(int p) {
        if (badP(p)) {
            return no(-1);
        }
        remember();
        w.humans.get(p).shut = !w.humans.get(p).shut;
        return w.humans.get(p).shut ? 1 : 0;
    }

    int kin(int p, int d) {
        if (badP(p) || badD(d)) {
            return no(-1);
        }
        remember();
        w.humans.get(p).kin ^= 1 << d;
        return w.humans.get(p).kin >> d & 1;
    }

    int leans(int d, int v) {
        if (badD(d)) {
            return no(-1);
        }
        if (v < 0) {
            return no(-4);
        }
        if (v > 9) {
            return no(-6);
        }
        remember();
        int was = w.ghosts.get(d).figure;
        w.ghosts.get(d).figure = v;
        return was;
    }

    int learns(int p, int f) {
        if (badP(p) || badF(f)) {
            return no(-1);
        }
        int r = w.humans.get(p).knows[f] ? 0 : 1;
        w.humans.get(p).knows[f] = true;
        undo.clear();
        return r;
    }

    private static void pass(World v) {
        boolean[][] end = v.play().known.get(24);
        for (int p = 0; p < v.humans.size(); p++) {
            v.humans.get(p).knows = end[p].clone();
        }
    }

    int passes() {
        int before = w.now();
        pass(w);
        undo.clear();
        return w.now() - before;
    }

    int back() {
        if (undo.isEmpty()) {
            return no(-3);
        }
        w = undo.removeLast();
        return undo.size();
    }

    int knows(int p, int n) {
        if (badP(p)) {
            return no(-1);
        }
        if (n < 0) {
            return no(-4);
        }
        if (n > 24) {
            return no(-6);
        }
        return w.play().knows(n, p);
    }

    int through(int d, int h) {
        if (badD(d) || badH(h)) {
            return no(-1);
        }
        return w.play().who.get(h)[d];
    }

    int speak(int p, int h) {
        if (p != -1 && badP(p) || badH(h)) {
            return no(-1);
        }
        return p == -1 ? w.play().speakers(h) : w.play().bitsThrough(p, h);
    }

    int two(int what) {
        if (bad(what, 1)) {
            return no(-2);
        }
        Played day = w.play();
        List<Integer> hours = new ArrayList<>();
        for (int h = 0; h < 24; h++) {
            boolean some = false;
            for (int p = 0; p < w.humans.size(); p++) {
                some |= Integer.bitCount(day.bitsThrough(p, h)) > 1;
            }
            if (some) {
                hours.add(h);
            }
        }
        return what == 1 ? hours.size() : hours.isEmpty() ? -9 : hours.get(0);
    }

    int heard(int p, int f) {
        return badP(p) || badF(f) ? no(-1) : w.play().heard(p, f);
    }

    int spoke(int d) {
        return badD(d) ? no(-1) : w.play().spoke(d);
    }

    int told(int f, int what) {
        if (badF(f)) {
            return no(-1);
        }
        if (bad(what, 1)) {
            return no(-2);
        }
        Played day = w.play();
        int told = 0;
        int knowing = 0;
        for (int d = 0; d < w.ghosts.size(); d++) {
            told += w.ghosts.get(d).fact == f ? day.spoke(d) : 0;
        }
        for (int p = 0; p < w.humans.size(); p++) {
            knowing += day.known.get(24)[p][f] ? 1 : 0;
        }
        return what == 0 ? told : knowing;
    }

    int all() {
        return w.play().all();
    }

    int never(int p, int f, int what) {
        if (badP(p) || badF(f)) {
            return no(-1);
        }
        if (bad(what, 1)) {
            return no(-2);
        }
        if (w.humans.get(p).knows[f]) {
            return -9;
        }
        for (int s : sets(w.humans.size())) {
            World v = w.copy();
            boolean isNew = true;
            for (int q = 0; q < v.humans.size(); q++) {
                if ((s >> q & 1) == 1) {
                    isNew &= !v.humans.get(q).shut;
                    v.humans.get(q).shut = true;
                }
            }
            if (isNew && v.play().heard(p, f) == -9) {
                return what == 0 ? s : Integer.bitCount(s);
            }
        }
        return 12345;
    }

    int just(int f, int set) {
        if (badF(f)) {
            return no(-1);
        }
        if (set < 0) {
            return no(-4);
        }
        if (set >> w.humans.size() != 0) {
            return no(-6);
        }
        for (int s : sets(w.humans.size())) {
            World v = w.copy();
            for (int q = 0; q < v.humans.size(); q++) {
                v.humans.get(q).shut = (s >> q & 1) == 1;
            }
            Played day = v.play();
            boolean so = true;
            for (int q = 0; q < v.humans.size(); q++) {
                so &= day.known.get(24)[q][f] == ((set >> q & 1) == 1);
            }
            if (so) {
                return s;
            }
        }
        return -9;
    }

    int soonest(int p, int f) {
        if (badP(p) || badF(f)) {
            return no(-1);
        }
        int[] when = new int[w.humans.size()];
        int least = late(w.play().heard(p, f));
        int who = -9;
        for (int q = 0; q < when.length; q++) {
            World v = w.copy();
            Arrays.fill(v.humans.get(q).open, true);
            v.humans.get(q).shut = false;
            when[q] = late(v.play().heard(p, f));
        }
        for (int q = when.length - 1; q >= 0; q--) {
            if (when[q] < least || when[q] == least && who != -9) {
                least = when[q];
                who = q;
            }
        }
        return who;
    }

    private static int late(int heard) {
        return heard == -9 ? 1000 : heard;
    }

    int opening(int p, int what) {
        if (badP(p)) {
            return no(-1);
        }
        if (bad(what, 1)) {
            return no(-2);
        }
        int[] known = new int[24];
        for (int h = 0; h < 24; h++) {
            World v = w.copy();
            v.humans.get(p).open = new boolean[24];
            v.humans.get(p).open[h] = true;
            known[h] = v.play().all();
        }
        int best = firstMost(known);
        return what == 0 ? best : known[best];
    }

    static int firstMost(int[] a) {
        int best = 0;
        for (int i = a.length - 1; i >= 0; i--) {
            if (a[i] >= a[best]) {
                best = i;
            }
        }
        return best;
    }

    int seat() {
        int now = all();
        int most = now;
        int best = -9;
        for (int n = 0; n < 100; n++) {
            int a = n / 10;
            int b = n % 10;
            if (a < b && b < w.humans.size()) {
                World v = w.copy();
                Human x = v.humans.get(a);
                v.humans.set(a, v.humans.get(b));
                v.humans.set(b, x);
                if (v.play().all() > most) {
                    most = v.play().all();
                    best = n;
                }
            }
        }
        return best;
    }

    int can(int p, int f, int h) {
        if (badP(p) || badF(f) || badH(h)) {
            return no(-1);
        }
        return said(w.play(), p, h).contains(f) ? 1 : 0;
    }

    private List<Integer> said(Played day, int p, int h) {
        List<Integer> facts = new ArrayList<>();
        for (int d = 0; d < w.ghosts.size(); d++) {
            if (day.who.get(h)[d] == p) {
                facts.add(w.ghosts.get(d).fact);
            }
        }
        return facts;
    }

    int sham(int p) {
        if (badP(p)) {
            return no(-1);
        }
        for (int v : row) {
            if (v > 10) {
                return no(-3);
            }
        }
        Played day = w.play();
        for (int h = 0; h < row.size(); h++) {
            List<Integer> said = said(day, p, h);
            if (row.get(h) == 10 && !said.isEmpty() || row.get(h) < 10 && !said.contains(row.get(h))) {
                return h;
            }
        }
        return -9;
    }

    int who(int p, int n) {
        if (badP(p)) {
            return no(-1);
        }
        if (n < 0) {
            return no(-4);
        }
        if (n > 24) {
            return no(-6);
        }
        Played day = w.play();
        int set = 0;
        for (int d = 0; d < w.ghosts.size(); d++) {
            int c = 0;
            for (int h = 0; h < 24; h++) {
                c += day.who.get(h)[d] == p ? 1 : 0;
            }
            set += c == n ? 1 << d : 0;
        }
        return set;
    }

    int questions() {
        int all = 0;
        for (Ghost g : w.ghosts) {
            all |= 1 << g.fact;
        }
        for (int s : sets(w.ghosts.size())) {
            int some = 0;
            for (int d = 0; d < w.ghosts.size(); d++) {
                some |= (s >> d & 1) << w.ghosts.get(d).fact;
            }
            if (some == all) {
                return s;
            }
        }
        return 12345;
    }

    private static int quarrelHours(World v) {
        Played day = v.play();
        int hours = 0;
        for (int h = 0; h < 24; h++) {
            int c = 0;
            for (int d = 0; d < v.ghosts.size(); d++) {
                c += v.ghosts.get(d).kind == 3 && day.who.get(h)[d] != -9 ? 1 : 0;
            }
            hours += c >= 2 ? 1 : 0;
        }
        return hours;
    }

    int quarrels(int what) {
        if (bad(what, 1)) {
            return no(-2);
        }
        if (what == 0) {
            return quarrelHours(w);
        }
        for (int s : sets(w.ghosts.size())) {
            World v = w.copy();
            boolean only = true;
            for (int d = 0; d < v.ghosts.size(); d++) {
                v.ghosts.get(d).away = (s >> d & 1) == 1;
                only &= !v.ghosts.get(d).away || v.ghosts.get(d).kind == 3;
            }
            if (only && quarrelHours(v) == 0) {
                return s;
            }
        }
        return 12345;
    }

    int silent(int what) {
        if (bad(what, 2)) {
            return no(-2);
        }
        StringBuilder line = new StringBuilder();
        for (int h = 0; h < 24; h++) {
            line.append(w.play().speakers(h) == 0 ? '.' : 'x');
        }
        if (what == 0) {
            return line.toString().replace("x", "").length();
        }
        for (int n = 24; n > 0; n--) {
            int at = line.indexOf(".".repeat(n));
            if (at >= 0) {
                return what == 1 ? n : at;
            }
        }
        return what == 1 ? 0 : -9;
    }

    private static final long BIG = 4000000000000000000L;

    long colds(int p, int f, int t, int part) {
        if (badP(p) || badF(f)) {
            return BIG - no(-1);
        }
        if (t < 2) {
            return BIG - no(-4);
        }
        if (t > 20) {
            return BIG - no(-6);
        }
        if (bad(part, 1)) {
            return BIG - no(-2);
        }
        long below = 1;
        for (Human h : w.humans) {
            below *= h.shut ? 1 : t;
        }
        return fraction(chance(w.copy(), 0, p, f, t), below, part);
    }

    private static long chance(World v, int at, int p, int f, int t) {
        if (at == v.humans.size()) {
            return v.play().heard(p, f) == -9 ? 0 : 1;
        }
        if (v.humans.get(at).shut) {
            return chance(v, at + 1, p, f, t);
        }
        long well = chance(v, at + 1, p, f, t);
        v.humans.get(at).shut = true;
        long ill = chance(v, at + 1, p, f, t);
        v.humans.get(at).shut = false;
        return well * (t - 1) + ill;
    }

    private static long fraction(long a, long b, int part) {
        if (a == 0) {
            return part;
        }
        long g = java.math.BigInteger.valueOf(a).gcd(java.math.BigInteger.valueOf(b)).longValue();
        return part == 0 ? a / g : b / g;
    }

    int list(int p, int what) {
        if (badP(p)) {
            return no(-1);
        }
        if (bad(what, 1)) {
            return no(-2);
        }
        Played day = w.play();
        int bits = 0;
        int last = -9;
        for (int f = 0; f < 10; f++) {
            int heard = day.heard(p, f);
            if (heard > 0) {
                bits |= 1 << f;
                last = Math.max(last, heard);
            }
        }
        return what == 0 ? bits : last;
    }

    int days(int p) {
        if (p != -1 && badP(p)) {
            return no(-1);
        }
        World v = w.copy();
        int n = 0;
        for (int i = 0; i < 100; i++) {
            int before = v.now();
            pass(v);
            n += v.now() != before ? 1 : 0;
        }
        return p == -1 ? n : bits(v.humans.get(p).knows);
    }

    int needed() {
        int set = 0;
        for (int d = 0; d < w.ghosts.size(); d++) {
            World v = w.copy();
            v.ghosts.get(d).away = true;
            set |= v.play().all() < all() ? 1 << d : 0;
        }
        return set;
    }

    int loudest(int what) {
        if (bad(what, 1)) {
            return no(-2);
        }
        int[] c = new int[w.humans.size() + 1];
        for (int[] hour : w.play().who) {
            for (int p : hour) {
                if (p != -9) {
                    c[p]++;
                }
            }
        }
        int best = firstMost(c);
        return what == 1 ? c[best] : c[best] == 0 ? -9 : best;
    }

    int narrow(int p, int what) {
        if (badP(p)) {
            return no(-1);
        }
        if (bad(what, 1)) {
            return no(-2);
        }
        List<Integer> hours = new ArrayList<>();
        for (int h = 0; h < 24; h++) {
            World v = w.copy();
            v.humans.get(p).open[h] = false;
            if (w.humans.get(p).open[h] && v.play().all() == all()) {
                hours.add(h);
            }
        }
        return what == 0 ? hours.size() : hours.isEmpty() ? -9 : hours.get(0);
    }

    int key() {
        int[] known = new int[10];
        for (int f = 0; f < 10; f++) {
            World v = w.copy();
            for (Human h : v.humans) {
                h.knows[f] = true;
            }
            known[f] = v.play().all();
        }
        return firstMost(known);
    }

    int half() {
        Played day = w.play();
        int n = 24;
        while (n > 0 && day.all(n - 1) * 2 >= day.all()) {
            n--;
        }
        return n;
    }

    int turned() {
        World v = w.copy();
        for (Human h : v.humans) {
            boolean[] open = new boolean[24];
            for (int i = 0; i < 24; i++) {
                open[23 - i] = h.open[i];
            }
            h.open = open;
        }
        return v.play().all();
    }

    int twin() {
        int[] times = new int[100];
        for (int[] hour : w.play().who) {
            for (int a = 0; a < hour.length; a++) {
                for (int b = a + 1; b < hour.length; b++) {
                    times[10 * a + b] += hour[a] != -9 && hour[b] != -9 ? 1 : 0;
                }
            }
        }
        int best = firstMost(times);
        return times[best] == 0 ? -9 : best;
    }

    int spreads(int p, int f) {
        if (badP(p) || badF(f)) {
            return no(-1);
        }
        World v = w.copy();
        for (int n = 0; n <= 70; n++) {
            if (v.humans.get(p).knows[f]) {
                return n;
            }
            pass(v);
        }
        return -9;
    }

    int keeper(int what) {
        if (bad(what, 1)) {
            return no(-2);
        }
        if (w.humans.isEmpty()) {
            return -9;
        }
        int[] lost = new int[w.humans.size()];
        for (int p = 0; p < lost.length; p++) {
            World v = w.copy();
            v.humans.get(p).shut = true;
            lost[p] = -v.play().all();
        }
        int best = firstMost(lost);
        return what == 0 ? best : -lost[best];
    }

    int openings(int p, int what) {
        if (badP(p)) {
            return no(-1);
        }
        if (bad(what, 1)) {
            return no(-2);
        }
        List<Integer> hours = new ArrayList<>();
        for (int h = 0; h < 24; h++) {
            World v = w.copy();
            v.humans.get(p).open[h] = true;
            if (v.play().all() > all()) {
                hours.add(h);
            }
        }
        return what == 0 ? hours.size() : hours.isEmpty() ? -9 : hours.get(0);
    }

    int dinner(int k, int what) {
        if (k < 1) {
            return no(-4);
        }
        if (k > 12) {
            return no(-6);
        }
        if (bad(what, 1)) {
            return no(-2);
        }
        Played day = w.play();
        int[] quiet = new int[25 - k];
        for (int i = 0; i < quiet.length; i++) {
            for (int h = 0; h < k; h++) {
                quiet[i] -= day.speakers(i + h);
            }
        }
        int best = firstMost(quiet);
        return what == 0 ? best : -quiet[best];
    }

    long share(int d, int part) {
        if (badD(d)) {
            return BIG - no(-1);
        }
        if (bad(part, 1)) {
            return BIG - no(-2);
        }
        Played day = w.play();
        int sum = 0;
        for (int h = 0; h < 24; h++) {
            sum += day.speakers(h);
        }
        return fraction(day.spoke(d), sum, part);
    }

    int bridge() {
        int best = -9;
        int least = 1000;
        for (int a = 0; a < w.ghosts.size(); a++) {
            for (int b = a + 1; b < w.ghosts.size(); b++) {
                World v = w.copy();
                v.ghosts.get(a).away = true;
                v.ghosts.get(b).away = true;
                if (v.play().all() < least) {
                    least = v.play().all();
                    best = 10 * a + b;
                }
            }
        }
        return best;
    }

    int heir(int d) {
        if (badD(d)) {
            return no(-1);
        }
        int[] times = new int[10];
        for (int f = 0; f < 10; f++) {
            World v = w.copy();
            v.ghosts.get(d).figure = f;
            times[f] = v.play().spoke(d);
        }
        return firstMost(times);
    }

    int secret() {
        Played day = w.play();
        int bits = 0;
        for (int f = 0; f < 10; f++) {
            int c = 0;
            for (boolean[] k : day.known.get(24)) {
                c += k[f] ? 1 : 0;
            }
            bits |= c > 0 && c < w.humans.size() ? 1 << f : 0;
        }
        return bits;
    }

    int synod() {
        Played day = w.play();
        int n = w.humans.size();
        for (int s : sets(n)) {
            boolean covers = true;
            for (int f = 0; f < 10; f++) {
                boolean any = false;
                boolean of = false;
                for (int p = 0; p < n; p++) {
                    any |= day.known.get(24)[p][f];
                    of |= day.known.get(24)[p][f] && (s >> p & 1) == 1;
                }
                covers &= any == of;
            }
            if (covers) {
                return s;
            }
        }
        return 12345;
    }

    int row(int v) {
        if (v < 0) {
            return no(-4);
        }
        if (v > 99 || row.size() == 24) {
            return no(-6);
        }
        row.add(v);
        return row.size();
    }

    int judge() {
        Played day = w.play();
        int wrong = -9;
        for (int h = row.size() - 1; h >= 0; h--) {
            if (day.speakers(h) != row.get(h)) {
                wrong = h;
            }
        }
        row.clear();
        return wrong;
    }

    int clear() {
        int had = row.size();
        row.clear();
        return had;
    }

    int lots(int n, int z, int what) {
        if (n < 1) {
            return no(-4);
        }
        if (n > 20) {
            return no(-6);
        }
        if (bad(what, 1)) {
            return no(-2);
        }
        long seed = z;
        int sum = 0;
        int times = 0;
        for (int i = 0; i < n; i++) {
            World v = w.copy();
            for (Human h : v.humans) {
                int[] two = new int[2];
                for (int k = 0; k < 2; k++) {
                    seed = (int) (seed * 1103515245L + 12345L);
                    two[k] = (int) ((seed & 0x7fffffffL) >> 16) % 24;
                }
                Arrays.sort(two);
                Arrays.fill(h.open, false);
                Arrays.fill(h.open, two[0], two[1] + 1, true);
            }
            Played day = v.play();
            sum += day.all();
            boolean some = false;
            for (int f = 0; f < 10; f++) {
                boolean each = !v.humans.isEmpty();
                for (boolean[] k : day.known.get(24)) {
                    each &= k[f];
                }
                some |= each;
            }
            times += some ? 1 : 0;
        }
        return what == 0 ? sum : times;
    }

    int image() {
        image = w.copy();
        return w.humans.size();
    }

    int restore() {
        if (image == null) {
            return no(-3);
        }
        w = image.copy();
        undo.clear();
        return w.humans.size();
    }

    int count(int what) {
        int shut = 0;
        int open = 0;
        for (Human h : w.humans) {
            shut += h.shut ? 1 : 0;
            open += Integer.bitCount(bits(h.open));
        }
        switch (what) {
            case 0: return w.humans.size();
            case 1: return w.ghosts.size();
            case 2: return shut;
            case 3: return open;
            case 4: return w.now();
            case 5: return text.length();
            case 6: return row.size();
            case 7: return undo.size();
            case 11: case 12: case 13: case 14: case 15: case 16: return refused[what - 10];
            default: return -9;
        }
    }
}
