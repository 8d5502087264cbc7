import java.io.IOException;
import java.io.UncheckedIOException;
import java.nio.file.Files;
import java.nio.file.Path;
import java.util.Arrays;
import java.util.Set;
import java.util.TreeSet;
import java.util.function.IntUnaryOperator;

/** What the tests by hand share. */
abstract class Hand {
    static final int BAD = FiveStars.BAD, NO = FiveStars.NO, FULL = FiveStars.FULL, NONE = FiveStars.NONE;
    static final int NOTHING = FiveStars.NOTHING, KIND = FiveStars.KIND, INDEX = FiveStars.INDEX, SIZE = FiveStars.SIZE;
    static final int MAX = Integer.MAX_VALUE, MIN = Integer.MIN_VALUE;

    static final String DOCUMENT = document();
    private static final boolean[] QUOTED = new boolean[DOCUMENT.length()];

    static int promise = 0;
    static final Set<Integer> promises = new TreeSet<>();
    private static String sentence = "";
    private static int wrong = 0;
    private static int asked = 0;

    private static String document() {
        try {
            return Files.readString(Path.of("../shared/DOC.md")).replaceAll("\\s+", " ");
        } catch (IOException e) {
            throw new UncheckedIOException(e);
        }
    }

    /** A test of one sentence, in the document's own words, so that the two can be held against each other. */
    static void edge(int number, String words) {
        promise = number;
        sentence = words;
        promises.add(number);
        int at = DOCUMENT.indexOf(words);
        if (at < 0) {
            fail("the document does not say '" + words + "'");
        }
        while (at >= 0) {
            Arrays.fill(QUOTED, at, at + words.length(), true);
            at = DOCUMENT.indexOf(words, at + 1);
        }
    }

    /** Of the document from one heading on up to another all but the headings must have been quoted. */
    static void dueQuoted(String from, String to) {
        StringBuilder rest = new StringBuilder();
        for (int i = DOCUMENT.indexOf(from); i < DOCUMENT.indexOf(to); i++) {
            rest.append(QUOTED[i] ? '\n' : DOCUMENT.charAt(i));
        }
        String signature = "## Promise \\d+: [\\w ]+ `(int )?\\w+\\([^`]*\\)`:";
        String[] left = rest.toString().replaceAll(signature + "|```text|```|=+ \\d|## \\w+", "\n").split("\n+");
        sentence = "";
        for (String words : left) {
            if (words.matches(".*\\w.*")) {
                fail("no test quotes '" + words.trim() + "'");
            }
        }
    }

    static void fail(String what) {
        wrong++;
        System.out.println("promise " + promise + (sentence.isEmpty() ? "" : " ('" + sentence + "')") + ": " + what);
    }

    static void due(String call, int got, int want) {
        asked++;
        if (got != want) {
            fail(call + " answered " + got + ", due is " + want);
        }
    }

    /** What the least and the most that are allowed answer; all beyond them, on both sides, is BAD. */
    static void range(String call, int least, int dueLeast, int most, int dueMost, IntUnaryOperator ask) {
        due(call + " of " + least, ask.applyAsInt(least), dueLeast);
        due(call + " of " + most, ask.applyAsInt(most), dueMost);
        for (int v : new int[] {least - 1, most + 1, least - 100, most + 100, MIN, MAX, NONE, BAD}) {
            due(call + " of " + v, ask.applyAsInt(v), BAD);
        }
    }

    static void end() {
        System.out.println(wrong == 0 ? asked + " answers are as due" : wrong + " answers are not as due");
        System.exit(wrong == 0 ? 0 : 1);
    }

    /** Things with a w of 50, names that are BORN in the HOURS 0, 10, 20 and on. */
    static FiveStars made(int things, int names) {
        FiveStars x = new FiveStars();
        for (int i = 0; i < things; i++) {
            x.thing(50);
        }
        for (int i = 0; i < names; i++) {
            x.name(10 * i);
        }
        return x;
    }

    /** With so many WORDS of THING 0 by NAME 0, in HOUR 1, with 5 STARS. */
    static FiveStars spoken(int things, int names, int words) {
        FiveStars x = made(things, names);
        for (int i = 0; i < words; i++) {
            x.word(0, 0, 15);
        }
        return x;
    }

    static int four(String s, int at) {
        return s.charAt(at) << 24 | s.charAt(at + 1) << 16 | s.charAt(at + 2) << 8 | s.charAt(at + 3);
    }

    static void tape(FiveStars x, String s) {
        String padded = s + " ".repeat((12 - s.length() % 12) % 12);
        x.trim(0);
        for (int i = 0; i < padded.length(); i += 12) {
            x.feed(four(padded, i), four(padded, i + 4), four(padded, i + 8));
        }
        x.trim(s.length());
    }

    static int law(FiveStars x, String s) {
        tape(x, s);
        return x.text();
    }

    static void dueLaw(FiveStars x, String s, int want) {
        due("text() of '" + s + "'", law(x, s), want);
    }

    static void dueRow(FiveStars x, int sheet, int... row) {
        x.lay(4, 2, sheet);
        for (int i = 0; i < row.length; i++) {
            due("place " + i, x.item(4, i), row[i]);
        }
    }

    /** z behind n draws, worked out as a long so that it does not lean on Java's own wrap-around. */
    static int drawn(int z, int n) {
        long now = z & 0xffffffffL;
        for (int i = 0; i < n; i++) {
            now = (now * 1103515245L + 12345L) & 0xffffffffL;
        }
        return (int) now;
    }

    /** What the n-th draw from z gives. */
    static int given(int z, int n) {
        return (int) ((drawn(z, n) & 0xffffffffL) / 256);
    }

    /** The first seed from which the draws' rests are as wanted (-1: any). */
    static int seedFor(int[] by, int... rests) {
        for (int z = 0; z < 10000000; z++) {
            boolean fits = true;
            int now = z;
            for (int i = 0; i < by.length && fits; i++) {
                now = drawn(now, 1);
                fits = rests[i] < 0 || (now >>> 8) % by[i] == rests[i];
            }
            if (fits) {
                return z;
            }
        }
        fail("there is no such seed");
        return 0;
    }

    /** The row of n BUYERS, seen by what each of them leaves. */
    static int[] comeOneByOne(FiveStars x, int n, int hour) {
        int[] row = new int[2 * n];
        int things = x.count(0);
        for (int i = 0; i < n; i++) {
            int[] had = new int[things];
            for (int thing = 0; thing < things; thing++) {
                had[thing] = x.thingTold(thing, 1);
            }
            int wrote = x.buy(1, hour);
            for (int thing = 0; thing < things; thing++) {
                row[2 * i] = x.thingTold(thing, 1) > had[thing] ? thing : row[2 * i];
            }
            row[2 * i + 1] = wrote == 0 ? 0 : x.told(x.count(2) - 1, 4);
        }
        return row;
    }
}
