import java.lang.reflect.Method;
import java.lang.reflect.Modifier;
import java.util.ArrayList;
import java.util.Arrays;
import java.util.List;
import java.util.Map;
import java.util.TreeMap;
import java.util.function.Supplier;

/**
 * A call that is refused changes nothing, and neither does one that only asks. What can be seen of an object behind such
 * a call is held against what can be seen of a twin that was not asked.
 */
public final class RefusedTest extends Hand {
    private static final Map<String, Method> METHODS = new TreeMap<>();

    /** An object that is called by rows such as "word(0, 0, 15)", and never more than 512 times. */
    private static final class Run {
        private final FiveStars x = new FiveStars();
        private int calls = 0;

        int call(String row) {
            int open = row.indexOf('(');
            String inside = row.substring(open + 1, row.length() - 1).trim();
            Object[] args = inside.isEmpty() ? new Object[0]
                : Arrays.stream(inside.split(",")).map(v -> Integer.valueOf(v.trim())).toArray();
            calls++;
            if (calls > 512) {
                fail("a run of more than 512 calls");
            }
            try {
                return (Integer) METHODS.get(row.substring(0, open)).invoke(x, args);
            } catch (ReflectiveOperationException e) {
                fail(row + " threw " + e.getCause());
                return 0;
            }
        }

        void all(String... rows) {
            for (String row : rows) {
                call(row);
            }
        }

        void tape(String s) {
            String padded = s + " ".repeat((12 - s.length() % 12) % 12);
            for (int i = 0; i < padded.length(); i += 12) {
                call("feed(" + four(padded, i) + ", " + four(padded, i + 4) + ", " + four(padded, i + 8) + ")");
            }
            call("trim(" + s.length() + ")");
        }

        void law(String s) {
            tape(s);
            call("text()");
        }

        void tellRow(int[] row) {
            for (int v : row) {
                call("tell(" + v + ")");
            }
        }
    }

    // ---- states

    private static final String RICH = "rich", FULL_ONE = "full", NEW = "new", NAMELESS = "nameless", UNKEPT = "unkept";

    private static Run state(String name) {
        switch (name) {
            case RICH:
                return rich(true);
            case FULL_ONE:
                return full(true);
            case NAMELESS:
                return nameless();
            case UNKEPT:
                return unkept();
            default:
                return new Run();
        }
    }

    /** 3 THINGS (2 without WORDS), 4 NAMES, 13 WORDS, 4 TEXTS, an IMAGE that differs, and some of all the rest. */
    private static Run rich(boolean whole) {
        Run r = new Run();
        r.all("thing(80)", "thing(20)", "thing(55)", "name(100)", "name(90)", "name(5)", "name(999)", "set(0, 1, 30)");
        for (int i = 0; i < 12; i++) {
            r.call("word(" + i % 6 + ", " + (100 * (i % 2) + i % 4) + ", " + (10 * (90 + 3 * i) + 1 + i % 5) + ")");
        }
        r.law("weigh s+h/50");
        r.law("sign s+c");
        r.law("show m+w");
        r.call("seed(12345)");
        r.call("keep()");
        if (!whole) {
            return r;
        }
        r.all("word(4, 3, 25)", "star(2, 5)", "turns(3, 0)", "set(1, 1, 7)", "set(2, 0, 54)", "seed(9)");
        r.law("weigh 3");
        r.call("sheet(0, 0, 12)");
        for (int i = 0; i < 12; i++) {
            r.call("mark(0, " + i + ", " + (10 * i + 1) + ")");
        }
        r.all("sheet(1, 1, 4)", "mark(1, 0, 99999)", "mark(1, 1, " + NONE + ")", "mark(1, 3, -5)", "sheet(3, 0, 0)");
        r.all("lay(1, 1, 12)", "lay(2, 2, 1)", "lay(3, 3, -11)", "lay(4, 2, 3)");
        r.tape("show c*3+m" + " ".repeat(78));
        r.tellRow(comeOneByOne(rich(false).x, 3, 999));
        return r;
    }

    /** Nothing more has room; in THE IMAGE there are a WORD and a TEXT less. */
    private static Run full(boolean whole) {
        Run r = new Run();
        for (int i = 0; i < 6; i++) {
            r.call("thing(" + 20 * i + ")");
        }
        for (int i = 0; i < 12; i++) {
            r.call("name(" + i + ")");
        }
        r.all("job(0, 12, 500, 5)", "job(1, 11, 988, 1)");
        for (int i = 0; i < 13; i++) {
            r.law(i % 3 == 0 ? "weigh " + i : i % 3 == 1 ? "sign s+" + i : "show c-" + i);
        }
        r.call("keep()");
        if (!whole) {
            return r;
        }
        r.call("word(5, 511, 9995)");
        r.law("sign h");
        for (int i = 0; i < 4; i++) {
            r.all("sheet(" + i + ", " + i % 2 + ", 24)", "mark(" + i + ", 23, 11)", "mark(" + i + ", 0, 11)");
        }
        r.all("lay(0, 1, 23)", "lay(1, 2, 0)", "lay(2, 2, 1)", "lay(3, 3, 5)", "lay(4, 1, 0)");
        r.tape("show " + "m+".repeat(45) + "w");
        r.tellRow(comeOneByOne(full(false).x, 30, 999));
        return r;
    }

    private static Run nameless() {
        Run r = new Run();
        r.all("thing(80)", "thing(20)", "keep()", "seed(5)");
        return r;
    }

    private static Run unkept() {
        Run r = new Run();
        r.all("thing(80)", "name(20)", "word(0, 0, 15)", "seed(5)", "tell(0)", "tell(3)");
        r.tape("show m");
        return r;
    }

    // ---- what can be seen

    private static final List<List<String>> VIEWS = views();

    private static List<List<String>> views() {
        List<String> counts = new ArrayList<>();
        ask(counts, "count(#)", 8, 1);
        ask(counts, "thingTold(#, %)", 6, 4);
        ask(counts, "nameTold(#, %)", 12, 3);
        ask(counts, "mean(#, %)", 6, 6);
        ask(counts, "shelf(#)", 6, 1);
        ask(counts, "why(#)", 3, 1);
        ask(counts, "textTold(#, %)", 14, 2);
        ask(counts, "off(#, %)", 11, 2);
        List<String> words = new ArrayList<>();
        ask(words, "told(#, %)", 24, 9);
        List<String> slots = new ArrayList<>();
        ask(slots, "ask(#, %)", 5, 6);
        ask(slots, "item(#, %)", 5, 25);
        ask(slots, "rest(#, 1000)", 5, 1);
        ask(slots, "lay(#, 0, 0)", 5, 1);
        List<String> sheets = new ArrayList<>();
        for (int i = 0; i < 4; i++) {
            sheets.add("lay(0, 0, 0)");
            sheets.add("lay(0, 2, " + i + ")");
            ask(sheets, "item(0, %)", 1, 25);
        }
        List<List<String>> views = new ArrayList<>(List.of(counts, words, slots, sheets));
        views.add(behind(counts, "back()"));
        views.add(behind(words, "back()"));
        views.add(List.of("count(6)", "back()", "text()", "count(4)", "textTold(13, 0)", "textTold(13, 1)",
            "textTold(3, 0)", "textTold(3, 1)", "shelf(0)", "shelf(1)", "count(6)"));
        views.add(List.of("count(5)", "check(30, 999)", "count(5)"));
        views.add(List.of("count(5)", "check(3, 999)", "count(5)"));
        return views;
    }

    private static void ask(List<String> view, String row, int most, int what) {
        for (int i = 0; i < most; i++) {
            for (int j = 0; j < what; j++) {
                view.add(row.replace("#", "" + i).replace("%", "" + j));
            }
        }
    }

    private static List<String> behind(List<String> view, String first) {
        List<String> all = new ArrayList<>(List.of(first));
        all.addAll(view);
        return all;
    }

    private static List<Integer> seen(Run r, List<String> view) {
        List<Integer> answers = new ArrayList<>();
        for (String row : view) {
            answers.add(r.call(row));
        }
        return answers;
    }

    /** Behind one of the two all must look as behind the other. */
    private static void dueAlike(String what, Supplier<Run> one, Supplier<Run> other) {
        for (List<String> view : VIEWS) {
            List<Integer> got = seen(one.get(), view);
            List<Integer> want = seen(other.get(), view);
            for (int i = 0; i < view.size(); i++) {
                due(view.get(i) + " behind " + what, got.get(i), want.get(i));
            }
        }
    }

    private static Run ran(String state, String... rows) {
        Run r = state(state);
        r.all(rows);
        return r;
    }

    // ---- refused calls

    private static void refused(String state, int number, int answer, String... rows) {
        promise = number;
        promises.add(number);
        for (String row : rows) {
            due(row + " of the " + state + " one", state(state).call(row), answer);
            dueAlike(row + " of the " + state + " one", () -> ran(state, row), () -> state(state));
        }
    }

    /** A refused call that uses up the tape or the numbers that wait, against another that does just this. */
    private static void usesUp(String state, int number, int answer, String ahead, String row, String other) {
        promise = number;
        promises.add(number);
        Run r = ran(state, ahead);
        due(row + " of the " + state + " one", r.call(row), answer);
        dueAlike(row + " of the " + state + " one", () -> ran(state, ahead, row), () -> ran(state, ahead, other));
    }

    private static void thingsAndWords() {
        refused(RICH, 2, BAD, "thing(-1)", "thing(101)");
        refused(FULL_ONE, 2, FULL, "thing(50)");
        refused(RICH, 3, BAD, "thingTold(-1, 0)", "thingTold(3, 0)", "thingTold(0, -1)", "thingTold(0, 4)");
        refused(RICH, 4, BAD, "set(-1, 0, 5)", "set(3, 0, 5)", "set(0, -1, 5)", "set(0, 2, 5)", "set(0, 0, -1)",
            "set(0, 0, 101)", "set(0, 1, -1)", "set(0, 1, 10000)");
        refused(RICH, 5, BAD, "name(-1)", "name(1000)");
        refused(FULL_ONE, 5, FULL, "name(5)");
        refused(RICH, 6, BAD, "nameTold(-1, 0)", "nameTold(4, 0)", "nameTold(0, -1)", "nameTold(0, 3)");
        refused(NAMELESS, 6, BAD, "nameTold(0, 0)", "nameTold(0, 2)");
        refused(RICH, 7, BAD, "word(-1, 0, 15)", "word(6, 0, 15)", "word(0, -1, 15)", "word(0, 4, 15)", "word(0, 300, 15)",
            "word(0, 0, 0)", "word(0, 0, 10)", "word(0, 0, 16)", "word(0, 0, -5)", "word(0, 0, 10001)");
        refused(FULL_ONE, 7, FULL, "word(0, 0, 15)", "word(5, 511, 9995)");
        refused(RICH, 8, BAD, "told(-1, 0)", "told(13, 0)", "told(0, -1)", "told(0, 9)");
        refused(RICH, 9, BAD, "as(-1, 0)", "as(13, 0)", "as(0, -1)", "as(0, 6)");
        refused(RICH, 9, KIND, "as(0, 5)", "as(12, 1)");
        refused(RICH, 10, BAD, "turns(-1, 0)", "turns(13, 0)", "turns(0, -1)", "turns(0, 6)");
        refused(RICH, 11, BAD, "star(-1, 1)", "star(13, 1)", "star(0, 0)", "star(0, 6)");
        refused(RICH, 12, BAD, "drop(-1)", "drop(13)");
        refused(NEW, 12, BAD, "drop(0)", "drop(-1)");
    }

    private static void meansAndSigns() {
        refused(RICH, 13, BAD, "mean(-1, 0)", "mean(3, 0)", "mean(0, -1)", "mean(0, 6)");
        refused(RICH, 13, NONE, "mean(2, 0)", "mean(2, 1)", "mean(2, 2)", "mean(2, 3)");
        refused(RICH, 14, BAD, "shelf(-1)");
        refused(RICH, 14, NONE, "shelf(3)");
        refused(RICH, 15, BAD, "alike(-1, 0, 5)", "alike(0, -1, 5)", "alike(4, 0, 5)", "alike(0, 4, 5)", "alike(1, 1, 5)",
            "alike(0, 1, -1)", "alike(0, 1, 1000)");
        refused(RICH, 16, BAD, "group(0, 5)", "group(7, 5)", "group(1, -1)", "group(1, 1000)");
        refused(RICH, 17, BAD, "wave(0, 0)", "wave(1001, 0)", "wave(1, -1)", "wave(1, 2)");
        refused(NEW, 17, NONE, "wave(1, 0)", "wave(1000, 1)");
        refused(RICH, 18, BAD, "changed(-1, 0)", "changed(3, 0)", "changed(0, -1)", "changed(0, 2)");
        refused(RICH, 18, NONE, "changed(2, 0)", "changed(2, 1)");
        refused(RICH, 19, BAD, "off(-1, 0)", "off(11, 0)", "off(0, -1)", "off(0, 2)");
        refused(RICH, 20, BAD, "bound(-1)", "bound(2)");
        refused(RICH, 21, BAD, "clean(-1)", "clean(11)");
    }

    private static void buyersAndTexts() {
        refused(RICH, 22, BAD, "buy(0, 5)", "buy(21, 5)", "buy(1, -1)", "buy(1, 1000)");
        refused(NEW, 22, NO, "buy(1, 0)", "buy(20, 999)");
        refused(RICH, 23, BAD, "job(-1, 1, 0, 1)", "job(3, 1, 0, 1)", "job(0, 0, 0, 1)", "job(0, 13, 0, 1)",
            "job(0, 1, -1, 1)", "job(0, 1, 1000, 1)", "job(0, 1, 0, 0)", "job(0, 1, 0, 6)", "job(0, 2, 999, 1)",
            "job(0, 11, 990, 1)");
        refused(NAMELESS, 23, NO, "job(0, 1, 0, 1)", "job(1, 12, 988, 5)");
        refused(RICH, 23, FULL, "job(0, 12, 0, 1)");
        refused(FULL_ONE, 23, FULL, "job(0, 1, 0, 1)", "job(5, 12, 988, 5)");
        refused(RICH, 25, FULL, "feed(0, 0, 0)", "feed(1936224119, 539520288, 538976288)");
        refused(FULL_ONE, 25, FULL, "feed(0, 0, 0)");
        refused(RICH, 26, BAD, "trim(-1)", "trim(89)");
        refused(FULL_ONE, 26, BAD, "trim(97)");
        refused(NEW, 26, BAD, "trim(1)");
        usesUp(RICH, 27, -107, "trim(7)", "text()", "trim(0)");
        usesUp(RICH, 27, -100, "trim(0)", "text()", "trim(0)");
        usesUp(FULL_ONE, 27, -195, "trim(95)", "text()", "trim(0)");
        usesUp(FULL_ONE, 27, FULL, "trim(96)", "text()", "trim(0)");
        refused(RICH, 28, BAD, "textTold(-1, 0)", "textTold(4, 0)", "textTold(0, -1)", "textTold(0, 2)");
        refused(RICH, 29, BAD, "why(-1)", "why(3)");
        refused(UNKEPT, 29, NONE, "why(0)", "why(1)", "why(2)");
    }

    private static void sheetsAndSlots() {
        refused(RICH, 30, BAD, "sheet(-1, 0, 1)", "sheet(4, 0, 1)", "sheet(0, -2, 1)", "sheet(0, 2, 1)", "sheet(0, 0, 25)",
            "sheet(1, 1, 25)", "sheet(2, 0, 25)");
        refused(RICH, 30, SIZE, "sheet(0, 0, -1)", "sheet(1, 1, -1)", "sheet(2, 0, -1)");
        refused(RICH, 31, BAD, "mark(-1, 0, 1)", "mark(4, 0, 1)", "mark(1, 0, 100000)", "mark(1, 1, -100000)");
        refused(RICH, 31, NOTHING, "mark(2, 0, 1)");
        refused(RICH, 31, INDEX, "mark(0, -1, 1)", "mark(0, 12, 1)", "mark(1, 4, 1)", "mark(3, 0, 1)");
        refused(RICH, 31, KIND, "mark(0, 0, " + NONE + ")");
        refused(RICH, 32, BAD, "pour(-1, 0)", "pour(4, 0)", "pour(0, 300)", "pour(0, 4)", "pour(0, -1)");
        refused(RICH, 32, NOTHING, "pour(2, 0)");
        refused(RICH, 32, FULL, "pour(0, 0)");
        refused(FULL_ONE, 32, FULL, "pour(0, 511)", "pour(1, 0)");
        refused(RICH, 33, BAD, "reads(-1)", "reads(4)");
        refused(RICH, 33, NOTHING, "reads(2)");
        refused(RICH, 33, NONE, "reads(3)");
        refused(RICH, 34, BAD, "copy(-1, 0, 0, 0, 1)", "copy(4, 0, 0, 0, 1)", "copy(0, 0, -1, 0, 1)", "copy(0, 0, 4, 0, 1)");
        refused(RICH, 34, NOTHING, "copy(2, 0, 0, 0, 1)", "copy(0, 0, 2, 0, 1)");
        refused(RICH, 34, KIND, "copy(0, 0, 1, 0, 1)", "copy(1, 0, 0, 0, 1)");
        refused(RICH, 34, INDEX, "copy(0, 0, 0, 1, 12)", "copy(0, 1, 0, 0, 12)", "copy(1, 0, 1, 3, 2)", "copy(1, 3, 1, 0, 2)",
            "copy(0, 0, 3, 0, 1)", "copy(3, 0, 0, 0, 1)", "copy(0, -1, 0, 3, 2)", "copy(0, 3, 0, -1, 2)",
            "copy(0, 3, 0, 5, -1)");
        refused(RICH, 35, BAD, "lay(-1, 3, 0)", "lay(5, 3, 0)", "lay(1, -1, 0)", "lay(1, 4, 0)", "lay(1, 1, -1)",
            "lay(1, 1, 13)", "lay(2, 2, -1)", "lay(2, 2, 4)");
        refused(RICH, 35, NOTHING, "lay(0, 2, 2)", "lay(1, 2, 2)", "lay(2, 2, 2)", "lay(3, 2, 2)");
        refused(RICH, 36, BAD, "ask(-1, 0)", "ask(5, 0)", "ask(1, -1)", "ask(1, 6)");
        refused(RICH, 36, NOTHING, "ask(0, 0)");
        refused(RICH, 36, KIND, "ask(1, 5)", "ask(2, 0)", "ask(3, 0)");
        refused(RICH, 37, BAD, "item(-1, 0)", "item(5, 0)");
        refused(RICH, 37, NOTHING, "item(0, 0)");
        refused(RICH, 37, KIND, "item(1, 0)", "item(3, 0)", "item(2, 1)");
        refused(RICH, 37, INDEX, "item(2, -1)", "item(2, 4)", "item(4, 0)");
        refused(RICH, 38, BAD, "rest(-1, 1)", "rest(5, 1)");
        refused(RICH, 38, NOTHING, "rest(0, 1)");
        refused(RICH, 38, KIND, "rest(1, 1)", "rest(2, 1)");
        refused(RICH, 38, NO, "rest(3, 0)");
    }

    private static void rowsAndImages() {
        refused(FULL_ONE, 39, FULL, "tell(0)", "tell(3)");
        for (String row : new String[] {"check(0, 0)", "check(31, 0)", "check(1, -1)", "check(1, 1000)"}) {
            usesUp(RICH, 40, BAD, "keep()", row, "check(1, 0)");
            usesUp(FULL_ONE, 40, BAD, "count(0)", row, "check(1, 0)");
        }
        usesUp(UNKEPT, 40, NO, "seed(7)", "check(1, 0)", "check(0, 0)");
        refused(UNKEPT, 42, NO, "back()");
        refused(NEW, 42, NO, "back()");
        refused(RICH, 43, BAD, "count(-1)", "count(8)");
    }

    // ---- calls that only ask

    private static void asks(String state, int number, String... rows) {
        promise = number;
        for (String row : rows) {
            dueAlike(row + " of the " + state + " one", () -> ran(state, row), () -> state(state));
        }
    }

    private static void questions() {
        for (String state : new String[] {RICH, FULL_ONE}) {
            asks(state, 3, "thingTold(0, 0)", "thingTold(0, 1)", "thingTold(0, 2)", "thingTold(2, 3)");
            asks(state, 6, "nameTold(0, 0)", "nameTold(1, 1)", "nameTold(2, 2)");
            asks(state, 8, "told(0, 0)", "told(12, 5)", "told(12, 6)", "told(12, 7)", "told(12, 8)");
            asks(state, 9, "as(0, 0)");
            asks(state, 13, "mean(0, 0)", "mean(0, 1)", "mean(0, 2)", "mean(0, 3)", "mean(0, 4)", "mean(0, 5)");
            asks(state, 14, "shelf(0)", "shelf(2)");
            asks(state, 15, "alike(0, 1, 999)");
            asks(state, 16, "group(1, 999)", "group(6, 0)");
            asks(state, 17, "wave(5, 0)", "wave(1000, 1)");
            asks(state, 18, "changed(0, 0)", "changed(1, 1)");
            asks(state, 19, "off(0, 0)", "off(9, 1)");
            asks(state, 20, "bound(0)", "bound(1)");
            asks(state, 21, "clean(10)");
            asks(state, 28, "textTold(0, 0)", "textTold(0, 1)");
            asks(state, 29, "why(0)", "why(1)", "why(2)");
            asks(state, 33, "reads(0)", "reads(1)");
            asks(state, 34, "copy(0, 0, 0, 0, 12)", "copy(1, 4, 1, 4, 0)");
            asks(state, 36, "ask(1, 0)");
            asks(state, 37, "item(2, 0)");
            asks(state, 38, "rest(3, 7)");
            asks(state, 43, "count(0)", "count(1)", "count(2)", "count(3)", "count(4)", "count(5)", "count(6)", "count(7)");
        }
    }

    public static void main(String[] args) {
        for (Method m : FiveStars.class.getDeclaredMethods()) {
            if (Modifier.isPublic(m.getModifiers())) {
                METHODS.put(m.getName(), m);
            }
        }
        edge(0, "A call that is refused answers one of BAD, NO, FULL, or a FINDING, of several the one that stands first with"
            + " it, and changes nothing (but the tape and the numbers that wait, where told).");
        due("the rich one's row", state(RICH).call("check(3, 999)"), 0);
        due("the full one's row", state(FULL_ONE).call("check(30, 999)"), 0);
        thingsAndWords();
        meansAndSigns();
        buyersAndTexts();
        sheetsAndSlots();
        rowsAndImages();
        questions();
        // Neither a new object, nor seed and keep, can be refused.
        for (int i = 1; i <= 43; i++) {
            promise = i;
            if (i != 1 && i != 24 && i != 41 && !promises.contains(i)) {
                fail("none of its refused calls has a test");
            }
        }
        end();
    }
}
