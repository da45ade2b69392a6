import java.lang.reflect.Method;
import java.util.HashSet;
import java.util.LinkedHashMap;
import java.util.Map;
import java.util.Random;
import java.util.Set;

/**
 * Runs of calls by lot, each answer compared with the Model's. The lots' seed is fixed,
 * so that a run that fails fails again. It also asks that every call has been answered in
 * as many ways as it must be for the comparison to say something.
 */
public final class ModelTest {
    /** Each call with what its numbers are: p one of PEOPLE, d one of DEAD, and so on (see number()). */
    private static final String[] CALLS = {
        "person pw", "dead dw", "comes K", "dies kvv", "open ph", "shut p", "kin pd", "leans dv",
        "learns pf", "passes", "back", "knows pn", "through dh", "speak qh", "two w", "heard pf",
        "spoke d", "told fw", "all", "never pfw", "just fx", "soonest pf", "opening pw", "seat",
        "can pfh", "sham p", "who pn", "questions", "quarrels w", "silent w", "colds pftw", "list pw",
        "days q", "needed", "loudest w", "narrow pw", "key", "half", "turned", "twin", "spreads pf",
        "keeper w", "openings pw", "dinner mw", "share dw", "bridge", "heir d", "secret", "synod",
        "row r", "judge", "clear", "lots Nzw", "image", "restore", "count c", "feed l", "family"};

    private final Random lot;
    private AcrossTheGap program = new AcrossTheGap();
    private Model model = new Model();
    private final StringBuilder log = new StringBuilder();
    private static final Map<String, Set<Long>> answers = new LinkedHashMap<>();
    private static final Map<String, Method[]> methods = new LinkedHashMap<>();
    private static int wrong = 0;

    private ModelTest(long seed) {
        // Seeds that lie close together would begin alike.
        lot = new Random(seed * 0x9E3779B97F4A7C15L);
    }

    public static void main(String[] args) throws Exception {
        for (Method m : AcrossTheGap.class.getDeclaredMethods()) {
            if (java.lang.reflect.Modifier.isPublic(m.getModifiers())) {
                methods.put(m.getName(), new Method[] {
                    m, Model.class.getDeclaredMethod(m.getName(), m.getParameterTypes())});
            }
        }
        int runs = args.length > 0 ? Integer.parseInt(args[0]) : 400;
        long first = args.length > 1 ? Long.parseLong(args[1]) : 1;
        for (int run = 0; run < runs && wrong == 0; run++) {
            new ModelTest(first + run).run(120);
        }
        if (wrong == 0) {
            allWereAnswered();
        }
        System.out.println(wrong == 0 ? "ModelTest: all answers are as due" : "ModelTest: " + wrong + " wrong");
        if (wrong != 0) {
            System.exit(1);
        }
    }

    private static void allWereAnswered() {
        for (String call : CALLS) {
            String name = call.split(" ")[0];
            int least = "open shut kin learns can".contains(name) ? 3
                    : "all just who".contains(name) ? 12 : 4;
            if (answers.get(name).size() < least) {
                wrong++;
                System.out.println("too few answers of " + name + ": " + answers.get(name));
            }
        }
    }

    private void run(int calls) throws Exception {
        settle();
        for (int i = 0; i < calls && wrong == 0; i++) {
            if (lot.nextInt(30) == 0) {
                tellFamily();
            } else if (lot.nextInt(40) == 0) {
                tellTrueRow();
            } else if (lot.nextInt(40) == 0) {
                changeAndTakeBack();
            } else {
                String call = CALLS[lot.nextInt(CALLS.length)];
                // Rarely, lest the object be left as small as an image of its first hours.
                boolean rare = "restore passes clear judge comes dies".contains(call.split(" ")[0]);
                if (!rare || lot.nextInt(3) == 0) {
                    byLot(call);
                }
            }
        }
        for (int what = -1; what < 19; what++) {
            call("count", what);
        }
        for (int p = -1; p < 8; p++) {
            for (int what = -1; what < 5; what++) {
                call("person", p, what);
                call("dead", p, what);
            }
        }
    }

    private void byLot(String call) throws Exception {
        String[] parts = call.split(" ");
        int[] numbers = new int[parts.length > 1 ? parts[1].length() : 0];
        for (int i = 0; i < numbers.length; i++) {
            numbers[i] = number(parts[1].charAt(i));
        }
        call(parts[0], numbers);
    }

    /** Some of PEOPLE and DEAD, some HOURS OPEN, to begin with. */
    private void settle() throws Exception {
        int people = lot.nextInt(8);
        int dead = lot.nextInt(7);
        int wide = lot.nextInt(3);
        for (int p = 0; p < people; p++) {
            call("comes", lot.nextInt(64) | (wide == 0 ? lot.nextInt(64) : 0));
        }
        for (int d = 0; d < dead; d++) {
            call("dies", lot.nextInt(6), lot.nextInt(10), wide == 1 ? lot.nextInt(3) : lot.nextInt(10));
        }
        for (int p = 0; p < people; p++) {
            if (lot.nextInt(6) > 0) {
                int from = lot.nextInt(24);
                int to = from + lot.nextInt(24 - from);
                say(String.format("o%d%02d%02d;", p, from, to));
            }
            for (int i = lot.nextInt(4); i > 0; i--) {
                call("open", p, lot.nextInt(24));
            }
            if (lot.nextInt(8) == 0) {
                call("shut", p);
            }
            if (lot.nextInt(5) == 0) {
                call("learns", p, lot.nextInt(10));
            }
        }
    }

    private void say(String text) throws Exception {
        for (char c : text.toCharArray()) {
            call("feed", c);
        }
        call("family");
    }

    private void tellFamily() throws Exception {
        StringBuilder text = new StringBuilder();
        for (int i = lot.nextInt(7); i >= 0; i--) {
            text.append(statement());
        }
        if (lot.nextInt(3) == 0 && text.length() > 0) {
            int at = lot.nextInt(text.length());
            String signs = "pdocsk;0123456789 x";
            switch (lot.nextInt(4)) {
                case 0: text.deleteCharAt(at); break;
                case 1: text.setLength(at); break;
                case 2: text.setCharAt(at, signs.charAt(lot.nextInt(signs.length()))); break;
                default: text.insert(at, signs.charAt(lot.nextInt(signs.length()))); break;
            }
        }
        say(text.toString());
    }

    private String statement() {
        int one = lot.nextInt(7);
        int from = lot.nextInt(24);
        int to = Math.min(25, Math.max(from - 1, lot.nextInt(27)));
        switch (lot.nextInt(8)) {
            case 0: return String.format("p%02d;", lot.nextInt(66));
            case 1: return String.format("d%d%d%d;", lot.nextInt(lot.nextInt(9) == 0 ? 7 : 6), lot.nextInt(10), lot.nextInt(10));
            case 2: case 3: return String.format("o%d%02d%02d;", one, from, Math.max(0, to));
            case 4: return String.format("c%d%02d%02d;", one, from, Math.max(0, to));
            case 5: return String.format("s%d;", one);
            default: return String.format("k%d%d;", one, lot.nextInt(10));
        }
    }

    /** A ROW that holds for some HOURS, so that SHAM and JUDGED have something to find late. */
    private void tellTrueRow() throws Exception {
        call("clear");
        Model.Played day = model.w.play();
        boolean facts = lot.nextBoolean();
        int one = model.w.humans.isEmpty() ? 0 : lot.nextInt(model.w.humans.size());
        int good = lot.nextInt(26);
        for (int h = 0; h < 24; h++) {
            int v = day.speakers(h);
            if (facts) {
                v = 10;
                for (int d = 0; d < model.w.ghosts.size(); d++) {
                    if (day.who.get(h)[d] == one && (v == 10 || lot.nextBoolean())) {
                        v = model.w.ghosts.get(d).fact;
                    }
                }
            }
            call("row", h < good ? v : lot.nextInt(facts ? 11 : 7));
        }
        call("row", 3);
        call("sham", one);
        call("judge");
    }

    private void changeAndTakeBack() throws Exception {
        String[] changes = {"open ph", "shut p", "kin pd", "leans dv"};
        for (int i = lot.nextInt(14); i > 0; i--) {
            byLot(changes[lot.nextInt(4)]);
        }
        for (int i = lot.nextInt(11); i > 0; i--) {
            call("back");
            call("all");
        }
    }

    private int number(char kind) {
        if (lot.nextInt(60) == 0) {
            int[] odd = {-1, -2, Integer.MIN_VALUE, Integer.MAX_VALUE, 64, 100, 1 << 24, 31, 32, -32};
            return odd[lot.nextInt(odd.length)];
        }
        switch (kind) {
            case 'p': return lot.nextInt(50) == 0 ? 7 : lot.nextInt(Math.max(1, model.w.humans.size()));
            case 'q': return lot.nextInt(Math.max(1, model.w.humans.size()) + 2) - 1;
            case 'd': return lot.nextInt(50) == 0 ? 6 : lot.nextInt(Math.max(1, model.w.ghosts.size()));
            case 'h': return lot.nextInt(25);
            case 'f': return lot.nextInt(4) == 0 || model.w.ghosts.isEmpty() ? lot.nextInt(11)
                    : model.w.ghosts.get(lot.nextInt(model.w.ghosts.size())).fact;
            case 'w': return lot.nextInt(12) == 0 ? lot.nextInt(6) - 1 : lot.nextInt(3);
            case 'K': return lot.nextInt(66);
            case 'k': return lot.nextInt(7);
            case 'v': return lot.nextInt(11);
            case 'n': return lot.nextInt(27) - 1;
            case 'x': return lot.nextInt(1 << model.w.humans.size());
            case 't': return lot.nextInt(22);
            case 'm': return lot.nextInt(15) - 1;
            case 'r': return lot.nextInt(9) == 0 ? lot.nextInt(102) : lot.nextInt(11);
            case 'N': return lot.nextInt(23);
            case 'z': return lot.nextInt();
            case 'c': return lot.nextInt(20) - 1;
            default: return lot.nextInt(258);
        }
    }

    private void call(String name, int... numbers) throws Exception {
        Object[] boxed = new Object[numbers.length];
        for (int i = 0; i < numbers.length; i++) {
            boxed[i] = numbers[i];
        }
        Method[] both = methods.get(name);
        long got = ((Number) both[0].invoke(program, boxed)).longValue();
        long want = ((Number) both[1].invoke(model, boxed)).longValue();
        log.append(name).append(java.util.Arrays.toString(numbers)).append(" ").append(got).append('\n');
        answers.computeIfAbsent(name, n -> new HashSet<>()).add(want);
        if (got != want) {
            wrong++;
            System.out.print(log);
            System.out.println("the last answered " + got + ", the Model " + want);
        }
    }
}
