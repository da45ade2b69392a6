import java.io.IOException;
import java.nio.charset.StandardCharsets;
import java.nio.file.Files;
import java.nio.file.Path;
import java.util.Set;
import java.util.TreeSet;
import java.util.regex.Matcher;
import java.util.regex.Pattern;

/**
 * What the tests by hand share, by being its kin: what is due, the sentence that it stands in,
 * families told in letters.
 */
abstract class Check {
    static final int MIN = Integer.MIN_VALUE;
    static final int MAX = Integer.MAX_VALUE;
    static final long BIG = 4000000000000000000L;

    private static int wrong = 0;
    private static String place = "";
    private static int row = 0;
    private static String document = "";
    private static final Set<Integer> quoted = new TreeSet<>();

    static void read(String path) throws IOException {
        document = Files.readString(Path.of(path), StandardCharsets.UTF_8);
    }

    /** The text of a promise, from its heading to the next one's. */
    static String textOf(int promise) {
        Matcher m = Pattern.compile("(?s)## Promise " + promise + ": (.*?)(?=\n## )").matcher(document);
        return m.find() ? m.group(1) : "";
    }

    /** What follows is due by this sentence, which the document must have to the letter. */
    static void about(String sentence) {
        startAt(sentence);
        if (!document.contains(sentence)) {
            fault("the document has no such sentence");
        }
    }

    /** What follows is due by this sentence of a promise. */
    static void about(int promise, String sentence) {
        startAt("promise " + promise + ", " + sentence);
        quoted.add(promise);
        if (!textOf(promise).contains(sentence)) {
            fault("the promise has no such sentence");
        }
    }

    /** Where the rows that follow stand, if one is wrong. */
    static void startAt(String where) {
        place = where;
        row = 0;
    }

    static void everyPromiseWasQuoted() {
        for (int promise = 1; !textOf(promise).isEmpty(); promise++) {
            if (!quoted.contains(promise)) {
                startAt("promise " + promise);
                fault("nothing is asked of it");
            }
        }
    }

    static void due(long got, long want) {
        row++;
        if (got != want) {
            fault("answered " + got + ", due is " + want);
        }
    }

    static void fault(String what) {
        wrong++;
        System.out.println(place + " [row " + row + "]: " + what);
    }

    static void end(String test) {
        System.out.println(test + ": " + (wrong == 0 ? "all answers are as due" : wrong + " wrong"));
        if (wrong != 0) {
            System.exit(1);
        }
    }

    /** Feeds each letter, then asks for the FAMILY. */
    static int tell(AcrossTheGap x, String family) {
        for (int i = 0; i < family.length(); i++) {
            due(x.feed(family.charAt(i)), i + 1);
        }
        return x.family();
    }

    /** A new object to whom each FAMILY, one behind the other, has come. */
    static AcrossTheGap told(String... families) {
        AcrossTheGap x = new AcrossTheGap();
        for (String family : families) {
            due(tell(x, family), family.length() - family.replace(";", "").length());
        }
        tellInVain(x);
        return x;
    }

    /** A FAMILY with a FAULT late in it leaves no trace, not in what-ifs either. */
    private static void tellInVain(AcrossTheGap x) {
        String all = (x.count(0) < 7 ? "p63;" : "") + (x.count(1) < 6 ? "d599;" : "") + "s0;k09;k08;o00022;c02323;";
        due(tell(x, all + "p99;"), -2000 - all.length());
    }

    static int bits(int... places) {
        int set = 0;
        for (int place : places) {
            set |= 1 << place;
        }
        return set;
    }

    static void rowOf(AcrossTheGap x, int... numbers) {
        x.clear();
        for (int number : numbers) {
            x.row(number);
        }
    }
}
