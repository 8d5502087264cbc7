import java.io.IOException;
import java.io.UncheckedIOException;
import java.nio.file.Files;
import java.nio.file.Path;
import java.util.regex.Matcher;
import java.util.regex.Pattern;

/** Sentences of the terms that hold for many promises at once, and those in brackets behind a promise. */
final class EdgesOfTerms extends Hand {
    static void all() {
        refusals();
        refusalsOfWords();
        refusalsOfRows();
        none();
        kinds();
        kindIsNone();
        whatOfMeans();
        whatCopyTakes();
        headings();
    }

    private static final String FIRST = "of several the one that stands first with it";

    /** A THING and a NAME, 24 WORDS (of KIND 0), 14 TEXTS, 60 numbers that wait: nothing more has room. */
    private static FiveStars full() {
        FiveStars x = spoken(1, 1, 24);
        for (int i = x.count(0); i < 6; i++) {
            x.thing(i);
        }
        for (int i = x.count(1); i < 12; i++) {
            x.name(i);
        }
        for (int i = 0; i < 14; i++) {
            law(x, "show 1");
        }
        for (int i = 0; i < 60; i++) {
            x.tell(i);
        }
        return x;
    }

    private static void refusals() {
        edge(0, "A call that is refused answers one of BAD, NO, FULL, or a FINDING, " + FIRST + ", and changes nothing (but"
            + " the tape and the numbers that wait, where told).");
        FiveStars full = full();
        due("thing: BAD, FULL", full.thing(101), BAD);
        due("thing: FULL", full.thing(100), FULL);
        due("name: BAD, FULL", full.name(1000), BAD);
        due("name: FULL", full.name(999), FULL);
        due("word: BAD, FULL", full.word(6, 0, 15), BAD);
        due("word: FULL", full.word(5, 511, 15), FULL);
        due("job: BAD, FULL", full.job(0, 13, 0, 1), BAD);
        due("job: FULL", full.job(0, 1, 0, 1), FULL);
        dueLaw(full, "show s", -105);
        dueLaw(full, "show m", FULL);
        due("tell: FULL", full.tell(0), FULL);
        due("check: BAD, NO", full.check(0, 0), BAD);
        due("the numbers that wait, where told", full.count(5), 0);
        due("the tape, where told", full.count(6), 0);
        int[] counts = {6, 12, 24, 24, 14, 0, 0, 1};
        for (int what = 0; what < 8; what++) {
            due("nothing else is changed: count(" + what + ")", full.count(what), counts[what]);
        }
        due("job: BAD, NO", made(1, 0).job(0, 1, 1000, 1), BAD);
        due("job: NO", made(1, 0).job(0, 12, 988, 5), NO);
        due("buy: BAD, NO", new FiveStars().buy(1, -1), BAD);
        due("buy: NO", new FiveStars().buy(1, 0), NO);
    }

    private static void refusalsOfWords() {
        edge(0, FIRST);
        FiveStars x = spoken(2, 1, 1);
        due("as: BAD, KIND", x.as(1, 5), BAD);
        due("as: KIND", x.as(0, 5), KIND);
        due("mean: BAD, NONE", x.mean(1, 6), BAD);
        due("mean: NONE", x.mean(1, 2), NONE);
        due("changed: BAD, NONE", x.changed(1, 2), BAD);
        due("changed: NONE", x.changed(1, 1), NONE);
        FiveStars empty = made(1, 1);
        due("wave: BAD, NONE", empty.wave(1001, 0), BAD);
        due("wave: NONE", empty.wave(1000, 0), NONE);
        due("shelf: BAD", new FiveStars().shelf(-1), BAD);
        due("why: BAD", new FiveStars().why(3), BAD);
    }

    private static void refusalsOfRows() {
        edge(0, FIRST);
        FiveStars x = full();
        due("sheet: BAD, SIZE", x.sheet(4, 0, -1), BAD);
        due("sheet: SIZE", x.sheet(3, 0, -1), SIZE);
        due("mark: BAD, NOTHING, INDEX", x.mark(4, -1, NONE), BAD);
        due("mark: NOTHING, INDEX, BAD", x.mark(3, -1, 100000), NOTHING);
        due("pour: BAD, NOTHING", x.pour(0, 600), BAD);
        due("pour: NOTHING", x.pour(0, 0), NOTHING);
        due("reads: BAD", x.reads(4), BAD);
        due("copy: BAD, NOTHING, INDEX", x.copy(0, -1, 4, -1, -1), BAD);
        x.sheet(0, 0, 1);
        x.mark(0, 0, 11);
        due("mark: INDEX, KIND", x.mark(0, 1, NONE), INDEX);
        due("mark: KIND", x.mark(0, 0, NONE), KIND);
        due("pour: BAD, FULL", x.pour(0, 600), BAD);
        due("pour: FULL", x.pour(0, 0), FULL);
        due("copy: NOTHING, INDEX", x.copy(0, -1, 1, -1, -1), NOTHING);
        x.sheet(1, 1, 1);
        due("mark: INDEX, BAD", x.mark(1, 1, 100000), INDEX);
        due("mark: BAD", x.mark(1, 0, 100000), BAD);
        due("copy: KIND, INDEX", x.copy(0, -1, 1, -1, -1), KIND);
        due("copy: INDEX", x.copy(0, -1, 0, -1, -1), INDEX);
        due("lay: BAD, NOTHING", x.lay(5, 2, 3), BAD);
        due("lay: NOTHING", x.lay(4, 2, 3), NOTHING);
        due("ask: BAD, NOTHING", x.ask(4, 6), BAD);
        due("ask: NOTHING", x.ask(4, 5), NOTHING);
        due("item: BAD, NOTHING, INDEX", x.item(5, -1), BAD);
        due("item: NOTHING, INDEX", x.item(4, -1), NOTHING);
        due("rest: BAD, NOTHING, NO", x.rest(5, 0), BAD);
        due("rest: NOTHING, NO", x.rest(4, 0), NOTHING);
        x.lay(4, 1, 0);
        due("ask: BAD, KIND", x.ask(4, 6), BAD);
        due("item: KIND, INDEX", x.item(4, -1), KIND);
        due("rest: KIND, NO", x.rest(4, 0), KIND);
        x.mark(1, 0, NONE);
        x.lay(4, 2, 1);
        due("item: INDEX, KIND", x.item(4, 1), INDEX);
        due("item: KIND", x.item(4, 0), KIND);
    }

    private static void none() {
        edge(0, "NONE: there is none.");
        FiveStars x = made(1, 1);
        due("a first HOUR", x.nameTold(0, 2), NONE);
        for (int what = 0; what <= 4; what++) {
            due("mean(0, " + what + ")", x.mean(0, what), NONE);
        }
        due("a THING at place 1", x.shelf(1), NONE);
        due("WAVE", x.wave(1, 0), NONE);
        due("WAVE", x.wave(1, 1), NONE);
        due("CHANGED", x.changed(0, 0), NONE);
        due("CHANGED", x.changed(0, 1), NONE);
        for (int key = 0; key < 3; key++) {
            due("why(" + key + ")", x.why(key), NONE);
        }
        x.sheet(0, 1, 1);
        due("a place that is not MEAN", x.reads(0), NONE);
    }

    /** Which KINDS are of another one: row by row the KIND, column by column the one that it is taken for. */
    private static final int[][] UNDER = {{1, 0, 0, 0, 0, 0}, {1, 1, 0, 0, 0, 0}, {1, 0, 1, 0, 0, 0}, {1, 1, 0, 1, 0, 0},
        {1, 0, 1, 0, 1, 0}, {1, 0, 0, 0, 0, 1}};

    private static void kinds() {
        edge(7, "(all are WORDS)");
        FiveStars x = made(1, 1);
        for (int kind = 0; kind < 6; kind++) {
            x.word(kind, 0, 11 + kind % 5);
        }
        for (int kind = 0; kind < 6; kind++) {
            for (int above = 0; above < 6; above++) {
                int want = UNDER[kind][above] == 1 ? 1 + kind % 5 : KIND;
                due("KIND " + kind + " as " + above, x.as(kind, above), want);
            }
        }
        due("of the THING", x.thingTold(0, 2), 6);
        due("of the NAME", x.nameTold(0, 1), 6);
        due("of the WAVE", x.wave(1, 1), 6);
        due("of MEAN", x.mean(0, 0), 100 * (1 + 2 + 3 + 4 + 5 + 1) / 6);

        edge(8, "(A KIND that is not named does as the one above it.)");
        for (int stars = 1; stars <= 5; stars++) {
            FiveStars bought = made(1, 1);
            bought.word(1, 0, 10 + stars);
            bought.word(0, 0, 10 + stars);
            due("BOUGHT SAYS as WORD", bought.told(0, 6), 20 * stars);
            due("BOUGHT SAYS as WORD", bought.told(0, 6), bought.told(1, 6));
        }
    }

    private static void kindIsNone() {
        edge(36, "KIND: it is none (of a KIND, a number, or another thing).");
        FiveStars x = spoken(1, 1, 1);
        x.sheet(0, 0, 2);
        x.sheet(1, 1, 2);
        x.mark(1, 0, NONE);
        x.lay(0, 1, 0);
        x.lay(1, 2, 1);
        x.lay(2, 3, 7);
        for (int kind = 1; kind < 6; kind++) {
            due("none of KIND " + kind, x.as(0, kind), KIND);
            due("none of KIND " + kind, x.ask(0, kind), KIND);
        }
        due("no WORD", x.ask(1, 0), KIND);
        due("no WORD", x.ask(2, 0), KIND);
        due("no SHEET", x.item(0, 0), KIND);
        due("no SHEET", x.item(2, 0), KIND);
        due("no number", x.rest(0, 1), KIND);
        due("no number", x.rest(1, 1), KIND);
        due("NO NUMBER", x.item(1, 0), KIND);
        due("a number", x.item(1, 1), 0);
        due("NO NUMBER in shorts", x.mark(0, 0, NONE), KIND);
        due("none of that sort", x.copy(0, 0, 1, 0, 1), KIND);
    }

    private static void whatOfMeans() {
        edge(32, "(of: 100 times the THING, and the NAME.)");
        FiveStars x = made(6, 12);
        x.sheet(0, 0, 1);
        x.mark(0, 0, 15);
        for (int thing = 0; thing < 6; thing++) {
            for (int name = 0; name < 12; name++) {
                due("pour", x.pour(0, 100 * thing + name), 1);
                due("THING", x.told(0, 1), thing);
                due("NAME", x.told(0, 2), name);
                x.drop(0);
            }
        }
    }

    private static void whatCopyTakes() {
        edge(34, "(From a SHEET, its place, to a SHEET, its place.)");
        for (int from = 0; from < 4; from++) {
            for (int to = 0; to < 4; to++) {
                FiveStars x = new FiveStars();
                for (int sheet = 0; sheet < 4; sheet++) {
                    x.sheet(sheet, 1, 5);
                    for (int place = 0; place < 5; place++) {
                        x.mark(sheet, place, 10 * sheet + place);
                    }
                }
                due("copy(" + from + ", 1, " + to + ", 3, 2)", x.copy(from, 1, to, 3, 2), 2);
                for (int sheet = 0; sheet < 4; sheet++) {
                    int at = 10 * sheet;
                    int fourth = sheet == to ? 10 * from + 1 : at + 3;
                    int fifth = sheet == to ? 10 * from + 2 : at + 4;
                    dueRow(x, sheet, at, at + 1, at + 2, fourth, fifth, INDEX);
                }
            }
        }
    }

    /** The interface is the class's own text: its headings stand ahead of the calls that the document names. */
    private static void headings() {
        String source = source();
        Matcher m = Pattern.compile("Ahead of the calls ([^.]*?) the interface says: (---- [a-z, ]*)\\.").matcher(DOCUMENT);
        int groups = 0;
        int calls = 0;
        int at = 0;
        while (m.find()) {
            edge(0, m.group());
            groups++;
            at = behind(source, "// " + m.group(2) + "\n", at);
            for (String call : m.group(1).split(", ")) {
                calls++;
                at = behind(source, "public int " + call.replace("`", "") + "(", at);
            }
        }
        due("headings", groups, 9);
        due("calls under them", calls, 42);
    }

    private static int behind(String source, String words, int from) {
        int at = source.indexOf(words, from);
        due("'" + words.trim() + "' stands next", at < 0 ? 0 : 1, 1);
        return Math.max(at, from);
    }

    private static String source() {
        try {
            return Files.readString(Path.of("src/main/java/FiveStars.java"));
        } catch (IOException e) {
            throw new UncheckedIOException(e);
        }
    }
}
