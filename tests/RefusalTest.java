import java.lang.reflect.InvocationTargetException;
import java.lang.reflect.Method;
import java.lang.reflect.Modifier;
import java.util.ArrayList;
import java.util.Arrays;
import java.util.HashMap;
import java.util.LinkedHashSet;
import java.util.List;
import java.util.Map;
import java.util.Set;
import java.util.TreeSet;
import java.util.regex.Matcher;
import java.util.regex.Pattern;

/**
 * Every call with every joining of numbers at their bounds, one beyond them and far beyond, of
 * objects that are empty, full and between: a call that must be refused is so by the number that
 * its promise tells first, one more is counted of it and nothing else is otherwise; a call that
 * must be taken is not refused. Argument: the document.
 */
public final class RefusalTest extends Check {
    /**
     * A call, its refusals in the order told, its numbers: p one of PEOPLE, q also -1, d one of
     * DEAD, f a FACT, h an HOUR, s bits of PEOPLE, wN a what below N, a..b from a to b, * any.
     */
    private static final String[] CALLS = {
        "feed|-4 -6|0..255", "family||", "person|-1 -2|p w4", "dead|-1 -2|d w3", "comes|-4 -6|0..63",
        "dies|-2 -4 -6|w6 0..9 0..9", "open|-1|p h", "shut|-1|p", "kin|-1|p d", "leans|-1 -4 -6|d 0..9",
        "learns|-1|p f", "passes||", "back|-3|", "knows|-1 -4 -6|p 0..24", "through|-1|d h", "speak|-1|q h",
        "two|-2|w2", "heard|-1|p f", "spoke|-1|d", "told|-1 -2|f w2", "all||", "never|-1 -2|p f w2",
        "just|-1 -4 -6|f s", "soonest|-1|p f", "opening|-1 -2|p w2", "seat||", "can|-1|p f h", "sham|-1 -3|p",
        "who|-1 -4 -6|p 0..24", "questions||", "quarrels|-2|w2", "silent|-2|w3", "colds|-1 -4 -6 -2|p f 2..20 w2",
        "list|-1 -2|p w2", "days|-1|q", "needed||", "loudest|-2|w2", "narrow|-1 -2|p w2", "key||", "half||",
        "turned||", "twin||", "spreads|-1|p f", "keeper|-2|w2", "openings|-1 -2|p w2", "dinner|-4 -6 -2|1..12 w2",
        "share|-1 -2|d w2", "bridge||", "heir|-1|d", "secret||", "synod||", "row|-4 -6|0..99", "judge||", "clear||",
        "lots|-4 -6 -2|1..20 * w2", "image||", "restore|-3|", "count||*"};

    private static final Map<String, Method> methods = new HashMap<>();

    /** An object in a state of which the test knows what it can refuse. */
    private abstract static class State {
        final int people;
        final int dead;
        final boolean hasRoom;
        final boolean hasImage;
        final boolean hasChanges;
        final boolean rowIsAbove;
        private String unchanged;

        State(int people, int dead, boolean hasRoom, boolean hasImage, boolean hasChanges, boolean rowIsAbove) {
            this.people = people;
            this.dead = dead;
            this.hasRoom = hasRoom;
            this.hasImage = hasImage;
            this.hasChanges = hasChanges;
            this.rowIsAbove = rowIsAbove;
        }

        abstract AcrossTheGap make();

        /** All that can be seen of such an object, if nothing has changed it. */
        String unchanged() {
            if (unchanged == null) {
                unchanged = everythingOf(make());
            }
            return unchanged;
        }
    }

    private static final State[] STATES = {
        new State(0, 0, true, false, false, false) {
            AcrossTheGap make() {
                return new AcrossTheGap();
            }
        },
        new State(0, 1, true, true, false, false) {
            AcrossTheGap make() {
                AcrossTheGap x = new AcrossTheGap();
                x.image();
                x.dies(4, 9, 9);
                x.row(0);
                return x;
            }
        },
        new State(1, 0, true, false, true, true) {
            AcrossTheGap make() {
                AcrossTheGap x = new AcrossTheGap();
                x.comes(63);
                x.shut(0);
                x.row(11);
                x.feed('s');
                return x;
            }
        },
        new State(3, 2, true, true, true, false) {
            AcrossTheGap make() {
                AcrossTheGap x = told("p03;p05;p00;d001;d312;o00212;o10616;k24;");
                refuseSome(x);
                x.image();
                x.shut(1);
                x.open(0, 1);
                x.kin(2, 0);
                x.leans(1, 3);
                trueRow(x, 5);
                feedAll(x, "s2;k15;c10606;");
                return x;
            }
        },
        new State(7, 6, false, true, true, true) {
            AcrossTheGap make() {
                AcrossTheGap x = new AcrossTheGap();
                for (int i = 0; i < 6; i++) {
                    x.comes(63 - i);
                    x.dies(i, i, i + 1);
                }
                tell(x, "o00023;o10023;o20023;o31212;s1;k19;");
                refuseSome(x);
                x.image();
                x.comes(9);
                x.open(6, 3);
                x.leans(0, 3);
                for (int p = 0; p < 6; p++) {
                    x.shut(p);
                }
                trueRow(x, 23);
                x.row(11);
                feedAll(x, "o10023;k09;k08;" + "s0;".repeat(27));
                return x;
            }
        }
    };

    public static void main(String[] args) throws Exception {
        read(args[0]);
        for (Method m : AcrossTheGap.class.getDeclaredMethods()) {
            if (Modifier.isPublic(m.getModifiers())) {
                methods.put(m.getName(), m);
            }
        }
        Set<String> asked = new TreeSet<>();
        for (int i = 0; i < CALLS.length; i++) {
            String[] parts = CALLS[i].split("\\|", -1);
            asked.add(parts[0]);
            ordersAreTheDocuments(i + 2, parts);
            for (int s = 0; s < STATES.length; s++) {
                startAt(CALLS[i] + " of object " + s);
                everyJoining(STATES[s], parts);
            }
        }
        if (!asked.equals(methods.keySet())) {
            fault("not every call is asked for");
        }
        end("RefusalTest");
    }

    /** The refusals of a call are those that its promise names, in its order. */
    private static void ordersAreTheDocuments(int promise, String[] parts) {
        startAt("promise " + promise);
        Set<String> named = new LinkedHashSet<>();
        String text = textOf(promise);
        if (!text.contains(" " + parts[0] + "(")) {
            fault("is not of " + parts[0]);
        }
        Matcher m = Pattern.compile("-[12346](?![0-9])").matcher(text);
        // count() tells how many REFUSALS there were, but has none; its promise is the last.
        while (m.find() && !parts[0].equals("count")) {
            named.add(m.group());
        }
        if (!String.join(" ", named).equals(parts[1])) {
            fault("the document's order is " + named);
        }
    }

    private static void everyJoining(State state, String[] parts) throws Exception {
        String[] kinds = parts[2].isEmpty() ? new String[0] : parts[2].split(" ");
        List<int[]> joined = List.of(new int[0]);
        for (String kind : kinds) {
            List<int[]> longer = new ArrayList<>();
            for (int[] ahead : joined) {
                for (int v : valuesOf(kind, state)) {
                    int[] more = Arrays.copyOf(ahead, ahead.length + 1);
                    more[ahead.length] = v;
                    longer.add(more);
                }
            }
            joined = longer;
        }
        for (int[] numbers : joined) {
            one(state, parts, kinds, numbers);
        }
    }

    /** The bounds of a kind of number: the least and the greatest that are taken. */
    private static long[] boundsOf(String kind, State state) {
        switch (kind.charAt(0)) {
            case 'p':
                return new long[] {0, state.people - 1};
            case 'q':
                return new long[] {-1, state.people - 1};
            case 'd':
                return new long[] {0, state.dead - 1};
            case 'f':
                return new long[] {0, 9};
            case 'h':
                return new long[] {0, 23};
            case 's':
                return new long[] {0, (1 << state.people) - 1};
            case 'w':
                return new long[] {0, kind.charAt(1) - '1'};
            case '*':
                return new long[] {MIN, MAX};
            default:
                String[] ends = kind.split("\\.\\.");
                return new long[] {Long.parseLong(ends[0]), Long.parseLong(ends[1])};
        }
    }

    private static Set<Integer> valuesOf(String kind, State state) {
        long[] bounds = boundsOf(kind, state);
        // 32 is where a shift by an int begins anew.
        long[] all = {bounds[0] - 1, bounds[0], bounds[1], bounds[1] + 1, MIN, MAX, 32};
        Set<Integer> values = new TreeSet<>();
        for (long v : all) {
            if (v >= MIN && v <= MAX) {
                values.add((int) v);
            }
        }
        return values;
    }

    private static int refusalOf(String kind, long v, State state) {
        long[] bounds = boundsOf(kind, state);
        if (v >= bounds[0] && v <= bounds[1]) {
            return 0;
        }
        switch (kind.charAt(0)) {
            case 'p': case 'q': case 'd': case 'f': case 'h':
                return -1;
            case 'w':
                return -2;
            default:
                return v < bounds[0] ? -4 : -6;
        }
    }

    /** Which refusals fit, whatever the numbers are. */
    private static int refusalByState(String call, State state) {
        switch (call) {
            case "feed": case "comes": case "dies": case "row":
                return state.hasRoom ? 0 : -6;
            case "back":
                return state.hasChanges ? 0 : -3;
            case "restore":
                return state.hasImage ? 0 : -3;
            case "sham":
                return state.rowIsAbove ? -3 : 0;
            default:
                return 0;
        }
    }

    private static void one(State state, String[] parts, String[] kinds, int[] numbers) throws Exception {
        Set<Integer> fit = new TreeSet<>();
        fit.add(refusalByState(parts[0], state));
        for (int i = 0; i < kinds.length; i++) {
            fit.add(refusalOf(kinds[i], numbers[i], state));
        }
        int due = 0;
        for (String refusal : parts[1].isEmpty() ? new String[0] : parts[1].split(" ")) {
            if (due == 0 && fit.contains(Integer.parseInt(refusal))) {
                due = Integer.parseInt(refusal);
            }
        }
        AcrossTheGap x = state.make();
        int[] before = refusals(x);
        long answer = call(x, parts[0], numbers);
        if (due != 0) {
            before[-due]++;
        }
        boolean isLong = methods.get(parts[0]).getReturnType() == long.class;
        boolean isRight = due == 0 ? isTaken(answer, isLong) : answer == (isLong ? BIG - due : due);
        String said = parts[0] + Arrays.toString(numbers) + " answered " + answer;
        if (!isRight) {
            fault(said + ", its refusal is " + due);
        }
        if (!Arrays.equals(before, refusals(x))) {
            fault(said + ", and it is not counted as it must be");
        }
        if (due != 0 && !everythingOf(x).equals(state.unchanged())) {
            fault(said + ", and something has changed");
        }
    }

    private static boolean isTaken(long answer, boolean isLong) {
        return answer >= 0 && !(isLong && answer >= BIG) || answer == -9 || answer <= -1000;
    }

    private static long call(AcrossTheGap x, String name, int[] numbers) throws Exception {
        Object[] boxed = new Object[numbers.length];
        for (int i = 0; i < numbers.length; i++) {
            boxed[i] = numbers[i];
        }
        try {
            return ((Number) methods.get(name).invoke(x, boxed)).longValue();
        } catch (InvocationTargetException e) {
            fault(name + Arrays.toString(numbers) + " threw " + e.getCause());
            return -5;
        }
    }

    private static int[] refusals(AcrossTheGap x) {
        int[] many = new int[7];
        for (int i = 1; i <= 6; i++) {
            many[i] = x.count(10 + i);
        }
        return many;
    }

    /**
     * All but the REFUSALS: what there is, the ROW, what can be TAKEN BACK, the letters, THE
     * IMAGE. It takes them away, so it is the last that is asked of an object.
     */
    private static String everythingOf(AcrossTheGap x) {
        StringBuilder all = new StringBuilder();
        look(x, all);
        all.append(" row ").append(x.judge());
        for (int left = x.count(7); left > 0; left--) {
            all.append(" back ").append(x.back()).append(' ').append(x.count(2)).append(' ').append(x.count(3))
                .append(' ').append(x.all());
        }
        look(x, all);
        all.append(" letters ").append(x.family());
        look(x, all);
        all.append(" image ").append(x.restore());
        look(x, all);
        return all.toString();
    }

    private static void look(AcrossTheGap x, StringBuilder all) {
        for (int what = 0; what <= 7; what++) {
            all.append(' ').append(x.count(what));
        }
        int people = x.count(0);
        int dead = x.count(1);
        for (int i = 0; i < 4 * people; i++) {
            all.append(' ').append(x.person(i / 4, i % 4));
        }
        for (int i = 0; i < 3 * dead; i++) {
            all.append(' ').append(x.dead(i / 3, i % 3));
        }
        all.append(" all ").append(x.all());
    }

    /** So that a REFUSAL is counted to those that there were. */
    private static void refuseSome(AcrossTheGap x) {
        x.restore();
        x.spoke(9);
        x.two(9);
        x.two(-1);
        x.row(-1);
        x.row(100);
        x.row(100);
        x.row(100);
    }

    /** What JUDGED is -9 of, so that it tells whether the ROW is as it was. */
    private static void trueRow(AcrossTheGap x, int hours) {
        for (int h = 0; h < hours; h++) {
            x.row(x.speak(-1, h));
        }
    }

    private static void feedAll(AcrossTheGap x, String letters) {
        for (char letter : letters.toCharArray()) {
            x.feed(letter);
        }
    }
}
