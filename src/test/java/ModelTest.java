import java.lang.reflect.Method;
import java.util.ArrayList;
import java.util.Arrays;
import java.util.List;
import java.util.Map;
import java.util.Random;
import java.util.TreeMap;

/** Runs of drawn calls (always the same ones) on the class and on Model: every answer must be the same. */
public final class ModelTest {
    private static final int RUNS = 1500, CALLS = 512;
    private static final int NONE = FiveStars.NONE;
    private static final String SPOILERS = "|&<=>+-*/!() shbcmw0123456789zA{`@\u0000\u00ff.";

    private final Random random;
    private final FiveStars real = new FiveStars();
    private final Model model = new Model();
    private final Map<String, Method> onReal = new TreeMap<>();
    private final Map<String, Method> onModel = new TreeMap<>();
    private final List<String> log = new ArrayList<>();
    private final Map<String, Map<String, Integer>> seen;
    private boolean wrong = false;
    private final int style;

    private ModelTest(long seed, Map<String, Map<String, Integer>> seen) {
        random = new Random(seed);
        style = (int) (seed % 4);
        this.seen = seen;
        for (Method m : FiveStars.class.getDeclaredMethods()) {
            if (java.lang.reflect.Modifier.isPublic(m.getModifiers())) {
                onReal.put(m.getName(), m);
            }
        }
        for (Method m : Model.class.getDeclaredMethods()) {
            onModel.putIfAbsent(m.getName(), m);
        }
    }

    private int call(String name, Integer... args) {
        if (log.size() >= CALLS || wrong) {
            return 0;
        }
        try {
            Object got = onReal.get(name).invoke(real, (Object[]) args);
            Object due = onModel.get(name).invoke(model, (Object[]) args);
            log.add(name + Arrays.toString(args) + " answered " + got);
            seen.computeIfAbsent(name, k -> new TreeMap<>()).merge(sort((Integer) due), 1, Integer::sum);
            if (!got.equals(due)) {
                wrong = true;
                log.add("   due is " + due);
            }
            return (Integer) due;
        } catch (ReflectiveOperationException e) {
            wrong = true;
            log.add(name + Arrays.toString(args) + " threw " + e + ": " + e.getCause());
            return 0;
        }
    }

    private static String sort(int v) {
        return switch (v) {
            case FiveStars.BAD -> "BAD";
            case FiveStars.NO -> "NO";
            case FiveStars.FULL -> "FULL";
            case NONE -> "NONE";
            case FiveStars.NOTHING -> "NOTHING";
            case FiveStars.KIND -> "KIND";
            case FiveStars.INDEX -> "INDEX";
            case FiveStars.SIZE -> "SIZE";
            default -> "else";
        };
    }

    // ---- what is drawn

    private int any() {
        int[] edges = {0, 1, -1, 2, 9, 10, 24, 25, 99, 100, 101, 999, 1000, 9999, 10000, 32767, 32768, 65535, -32769,
            Integer.MAX_VALUE, Integer.MIN_VALUE, NONE, FiveStars.BAD, random.nextInt()};
        return edges[random.nextInt(edges.length)];
    }

    /** Mostly within, at times on an edge or beyond. */
    private int in(int least, int most) {
        int dice = random.nextInt(40);
        if (dice == 0) {
            return any();
        }
        if (dice == 1) {
            return random.nextBoolean() ? least - 1 : most + 1;
        }
        if (dice < 4) {
            return random.nextBoolean() ? least : most;
        }
        return most < least ? most : least + random.nextInt(most - least + 1);
    }

    private int hour() {
        return style == 0 ? in(0, 999) : style == 1 ? in(990, 999) : in(0, 12);
    }
    private int thingNumber() { return in(0, Math.max(0, model.count(0) - 1)); }
    private int nameNumber() { return in(0, Math.max(0, model.count(1) - 1)); }
    private int wordNumber() { return in(0, Math.max(0, model.count(2) - 1)); }
    private int stars() { return style == 2 ? in(4, 5) : in(1, 5); }
    private int pair() { return random.nextInt(30) == 0 ? any() : 100 * thingNumber() + nameNumber(); }
    private int moment() { return random.nextInt(30) == 0 ? any() : 10 * hour() + stars(); }

    private String blanks() {
        return random.nextInt(5) == 0 ? " ".repeat(random.nextInt(3)) : "";
    }

    private String piece(String letters, int depth) {
        int dice = random.nextInt(10);
        if (depth > 0 && dice < 2) {
            return "!" + blanks() + piece(letters, depth - 1);
        }
        if (depth > 0 && dice < 5) {
            return "(" + expression(letters, depth - 1) + ")";
        }
        if (dice < 7) {
            return String.valueOf(random.nextInt(random.nextInt(4) == 0 ? 10000 : 6));
        }
        return String.valueOf(letters.charAt(random.nextInt(letters.length())));
    }

    private String expression(String letters, int depth) {
        StringBuilder made = new StringBuilder(blanks() + piece(letters, depth) + blanks());
        for (int i = random.nextInt(4); i > 0; i--) {
            made.append("|&<=>+-*/+-*".charAt(random.nextInt(12))).append(blanks()).append(piece(letters, depth)).append(blanks());
        }
        return made.toString();
    }

    private String lawText() {
        int key = random.nextInt(3);
        String letters = List.of("shb", "shbc", "mwc").get(key);
        int dice = random.nextInt(20);
        String body = dice == 0 ? "!".repeat(7 + random.nextInt(4)) + "s"
            : dice == 1 ? "(".repeat(7 + random.nextInt(4)) + "c" + ")".repeat(7 + random.nextInt(4))
            : dice == 2 ? "!(".repeat(7 + random.nextInt(4)) + "5" + ")".repeat(7 + random.nextInt(4))
            : dice == 3 ? "((!!5))+".repeat(1 + random.nextInt(9)) + letters.charAt(0)
            : expression(letters, random.nextInt(4));
        String made = blanks() + List.of("weigh", "sign", "show").get(key) + " " + body;
        StringBuilder spoiled = new StringBuilder(made);
        for (int i = random.nextInt(3) == 0 ? 1 + random.nextInt(2) : 0; i > 0; i--) {
            int at = random.nextInt(spoiled.length());
            char c = SPOILERS.charAt(random.nextInt(SPOILERS.length()));
            switch (random.nextInt(3)) {
                case 0 -> spoiled.setCharAt(at, c);
                case 1 -> spoiled.insert(at, c);
                default -> spoiled.deleteCharAt(at);
            }
            if (spoiled.length() == 0) {
                break;
            }
        }
        return spoiled.toString();
    }

    private void tellText() {
        String made = lawText();
        if (made.length() > 96) {
            made = made.substring(0, 96);
        }
        if (random.nextInt(10) > 0) {
            call("trim", 0);
        }
        String padded = made + " ".repeat((12 - made.length() % 12) % 12);
        for (int i = 0; i < padded.length(); i += 12) {
            call("feed", four(padded, i), four(padded, i + 4), four(padded, i + 8));
        }
        call("trim", random.nextInt(20) > 0 ? made.length() : any());
        if (random.nextInt(20) > 0) {
            call("text");
        }
    }

    private static int four(String s, int at) {
        return s.charAt(at) << 24 | s.charAt(at + 1) << 16 | s.charAt(at + 2) << 8 | s.charAt(at + 3);
    }

    private void tellRow() {
        int n = in(1, 30);
        int at = hour();
        if (random.nextInt(8) > 0) {
            call("check", 0, 0);
        }
        if (model.hasImage() && n >= 1 && n <= 30 && at >= 0 && at <= 999) {
            List<Integer> due = model.buyersTold(n, at);
            int dice = random.nextInt(4);
            if (dice == 0) {
                due.add(random.nextInt(6));
            } else if (dice == 1) {
                due.remove(due.size() - 1);
            } else if (dice == 2) {
                due.set(random.nextInt(due.size()), random.nextInt(6));
            }
            due.forEach(v -> call("tell", v));
        }
        call("check", n, at);
    }

    private void someCall() {
        List<String> all = List.copyOf(onReal.keySet());
        String name = all.get(random.nextInt(all.size()));
        switch (name) {
            case "thing" -> call(name, in(0, 100));
            case "thingTold" -> call(name, thingNumber(), in(0, 3));
            case "set" -> {
                int what = in(0, 1);
                call(name, thingNumber(), what, what == 0 ? in(0, 100) : random.nextBoolean() ? in(0, 20) : in(9990, 9999));
            }
            case "name" -> call(name, hour());
            case "nameTold" -> call(name, nameNumber(), in(0, 2));
            case "word" -> {
                for (int i = 0; i < 3; i++) {
                    call(name, in(0, 5), pair(), moment());
                }
            }
            case "told" -> call(name, wordNumber(), in(0, 8));
            case "as", "turns" -> call(name, wordNumber(), in(0, 5));
            case "star" -> call(name, wordNumber(), stars());
            case "drop" -> call(name, wordNumber());
            case "mean" -> call(name, thingNumber(), in(0, 5));
            case "shelf" -> call(name, thingNumber());
            case "alike" -> call(name, nameNumber(), nameNumber(), hour());
            case "group" -> call(name, in(1, random.nextInt(3) == 0 ? 6 : 2), hour());
            case "wave" -> call(name, random.nextBoolean() ? in(1, 1000) : in(1, 6), in(0, 1));
            case "changed" -> call(name, thingNumber(), in(0, 1));
            case "off" -> call(name, in(0, 10), in(0, 1));
            case "bound" -> call(name, in(0, 1));
            case "clean" -> call(name, random.nextInt(3) == 0 ? in(0, 10) : in(8, 10));
            case "buy" -> call(name, random.nextBoolean() ? in(1, 20) : in(1, 3), hour());
            case "job" -> call(name, thingNumber(), random.nextBoolean() ? in(1, 12) : in(1, 3), hour(), stars());
            case "seed" -> call(name, random.nextBoolean() ? any() : random.nextInt());
            case "feed", "trim", "text" -> tellText();
            case "textTold" -> call(name, in(0, Math.max(0, model.count(4) - 1)), in(0, 1));
            case "why" -> call(name, in(0, 2));
            case "tell", "check" -> {
                if (random.nextInt(3) == 0) {
                    tellRow();
                }
            }
            case "keep" -> call(name);
            case "back" -> {
                if (random.nextInt(3) == 0) {
                    call(name);
                }
            }
            case "count" -> call(name, in(0, 7));
            default -> sheetCall(name);
        }
    }

    private void sheetCall(String name) {
        int sheet = in(0, 3);
        switch (name) {
            case "sheet" -> call(name, sheet, random.nextInt(8) == 0 ? -1 : in(0, 1), random.nextBoolean() ? in(0, 24) : in(0, 6));
            case "mark" -> {
                for (int i = random.nextInt(5); i >= 0; i--) {
                    int dice = random.nextInt(8);
                    call(name, sheet, i, dice == 0 ? any() : dice == 1 ? NONE : dice < 4 ? model.mean(i, 0) : moment());
                }
                call(name, sheet, in(0, 24), in(-99999, 99999));
            }
            case "pour" -> call(name, sheet, pair());
            case "reads" -> {
                if (random.nextInt(3) == 0) {
                    call("sheet", sheet, in(0, 1), 6);
                    for (int i = 0; i < 6; i++) {
                        call("mark", sheet, i, Math.max(0, model.mean(i, 0)));
                    }
                }
                call(name, sheet);
            }
            case "copy" -> call(name, sheet, in(0, 4), in(0, 3), in(0, 4), in(0, 4));
            case "lay" -> {
                int what = in(0, 3);
                call(name, in(0, 4), what, what == 1 ? wordNumber() : what == 2 ? in(0, 3) : any());
            }
            case "ask" -> {
                int slot = in(0, 4);
                maybeLay(slot, 1);
                call(name, slot, in(0, 5));
            }
            case "item" -> {
                int slot = in(0, 4);
                maybeLay(slot, 2);
                call(name, slot, in(0, 5));
            }
            case "rest" -> {
                int slot = in(0, 4);
                maybeLay(slot, 3);
                call(name, slot, random.nextBoolean() ? any() : in(-5, 5));
            }
            default -> throw new IllegalStateException(name);
        }
    }

    private void maybeLay(int slot, int what) {
        if (random.nextInt(3) == 0) {
            call("lay", slot, what, what == 1 ? wordNumber() : what == 2 ? in(0, 3) : any());
        }
    }

    /** What can be seen of all the state, asked at the end of a run. */
    private void lookAtAll() {
        for (int i = 0; i < 8; i++) {
            call("count", i);
        }
        for (int i = 0; i < model.count(2); i++) {
            for (int what : new int[] {0, 1, 2, 3, 4, 5, 7}) {
                call("told", i, what);
            }
        }
        for (int i = 0; i < model.count(0); i++) {
            call("thingTold", i, 0);
            call("thingTold", i, 1);
            call("thingTold", i, 3);
        }
    }

    private boolean run() {
        for (int i = random.nextInt(5); i > 0; i--) {
            call("thing", in(0, 100));
        }
        for (int i = random.nextInt(12); i > 0; i--) {
            call("name", hour());
        }
        int until = random.nextInt(4) == 0 ? 60 : 320;
        for (int i = 0; i < CALLS && log.size() < until && !wrong; i++) {
            someCall();
        }
        lookAtAll();
        return !wrong;
    }

    public static void main(String[] args) {
        int runs = args.length > 0 ? Integer.parseInt(args[0]) : RUNS;
        long from = args.length > 1 ? Long.parseLong(args[1]) : 0;
        Map<String, Map<String, Integer>> seen = new TreeMap<>();
        int failed = 0;
        for (int i = 0; i < runs && failed < 3; i++) {
            ModelTest test = new ModelTest(from + i, seen);
            if (!test.run()) {
                failed++;
                System.out.println("run " + (from + i) + ":");
                test.log.forEach(row -> System.out.println("  " + row));
            }
        }
        if (args.length > 0) {
            seen.forEach((name, answers) -> System.out.println(name + " " + answers));
        }
        if (seen.size() != 43 - 1) {
            System.out.println("only " + seen.size() + " methods were called");
            failed++;
        }
        System.out.println(failed == 0 ? runs + " drawn runs are as due" : failed + " drawn runs are not as due");
        System.exit(failed == 0 ? 0 : 1);
    }
}
