import java.util.ArrayDeque;
import java.util.ArrayList;
import java.util.Collections;
import java.util.Comparator;
import java.util.Deque;
import java.util.HashSet;
import java.util.List;
import java.util.Set;
import java.util.TreeMap;

/**
 * The document once more, told with objects and lists and without any care for room or speed. ModelTest holds the
 * class against it. It shares no code with the class and takes other ways where there are others.
 */
final class Model {
    static final int BAD = -1000000001, NO = -1000000002, FULL = -1000000003, NONE = -1000000005;
    static final int NOTHING = -1000000011, KIND = -1000000012, INDEX = -1000000013, SIZE = -1000000014;

    // ---- kinds, as the tree that the document draws

    static class Word {
        int thing, name, hour, stars;
        int weight(int weigh) { return weigh; }
        int says() { return 20 * stars; }
        boolean isTrue() { return true; }
        int kind() { return 0; }
    }
    static class Bought extends Word {
        @Override int weight(int weigh) { return super.weight(weigh) + 1; }
        @Override int kind() { return 1; }
    }
    static class Paid extends Word {
        @Override int weight(int weigh) { return Math.max(0, super.weight(weigh) - 1); }
        @Override int says() { return 50; }
        @Override boolean isTrue() { return false; }
        @Override int kind() { return 2; }
    }
    static final class Thanked extends Bought {
        @Override int weight(int weigh) { return super.weight(weigh) / 2; }
        @Override int says() { return super.says() - 20; }
        @Override int kind() { return 3; }
    }
    static final class Moved extends Paid {
        @Override int weight(int weigh) { return hour % 2 == 0 ? super.weight(weigh) : 0; }
        @Override int says() { return super.says() + stars; }
        @Override int kind() { return 4; }
    }
    static final class Rival extends Word {
        @Override int weight(int weigh) { return 0; }
        @Override int says() { return 100 - super.says(); }
        @Override boolean isTrue() { return false; }
        @Override int kind() { return 5; }
    }

    private static Word make(int kind, int thing, int name, int hour, int stars) {
        Word made = switch (kind) {
            case 0 -> new Word();
            case 1 -> new Bought();
            case 2 -> new Paid();
            case 3 -> new Thanked();
            case 4 -> new Moved();
            default -> new Rival();
        };
        made.thing = thing;
        made.name = name;
        made.hour = hour;
        made.stars = stars;
        return made;
    }

    private static Word sameAs(Word word) {
        return make(word.kind(), word.thing, word.name, word.hour, word.stars);
    }

    private static boolean isOf(Word word, int kind) {
        return switch (kind) {
            case 0 -> true;
            case 1 -> word instanceof Bought;
            case 2 -> word instanceof Paid;
            case 3 -> word instanceof Thanked;
            case 4 -> word instanceof Moved;
            default -> word instanceof Rival;
        };
    }

    // ---- texts

    /** A tree; a leaf has no sides and either a number or a letter. */
    record Node(char sign, int number, Node left, Node right) {
        int worth(TreeMap<Character, Integer> names) {
            if (sign == '#') {
                return number;
            }
            if (left == null) {
                return names.get(sign);
            }
            int a = left.worth(names);
            if (sign == '!') {
                return a == 0 ? 1 : 0;
            }
            int b = right.worth(names);
            return switch (sign) {
                case '|' -> a != 0 || b != 0 ? 1 : 0;
                case '&' -> a != 0 && b != 0 ? 1 : 0;
                case '<' -> a < b ? 1 : 0;
                case '=' -> a == b ? 1 : 0;
                case '>' -> a > b ? 1 : 0;
                case '+' -> a + b;
                case '-' -> a - b;
                case '*' -> a * b;
                default -> b == 0 ? 0 : a / b;
            };
        }
        int leaves() {
            return left == null ? 1 : left.leaves() + (right == null ? 0 : right.leaves());
        }
    }
    record Law(int key, Node node) { }

    /** What is open between one ( and its ): the signs that wait for their right side. */
    private static final class Frame {
        final Deque<Character> signs = new ArrayDeque<>();
        final Deque<Node> nodes = new ArrayDeque<>();
        boolean tested;
        int nots;
    }

    private static int level(char sign) {
        return switch (sign) {
            case '|' -> 0;
            case '&' -> 1;
            case '<', '=', '>' -> 2;
            case '+', '-' -> 3;
            default -> 4;
        };
    }

    private static void fold(Frame frame, int level) {
        while (!frame.signs.isEmpty() && level(frame.signs.peek()) >= level) {
            char sign = frame.signs.pop();
            Node right = frame.nodes.pop();
            Node left = frame.nodes.pop();
            frame.nodes.push(new Node(sign, 0, left, right));
        }
    }

    private static void closePiece(Frame frame, Node piece) {
        Node node = piece;
        for (; frame.nots > 0; frame.nots--) {
            node = new Node('!', 0, node, null);
        }
        frame.nodes.push(node);
    }

    private int faultAt;

    /** A machine over signs with a stack of frames, not a descent: null with faultAt, or the law. */
    private Law read(String tape) {
        List<Integer> places = new ArrayList<>();
        List<String> tokens = new ArrayList<>();
        List<Boolean> glued = new ArrayList<>();
        String sort = "";
        int behind = -1;
        for (int i = 0; i < tape.length();) {
            char c = tape.charAt(i);
            if (c == ' ') {
                i++;
                continue;
            }
            int j = i + 1;
            String now = c >= 'a' && c <= 'z' ? "a" : c >= '0' && c <= '9' ? "0" : "";
            while (!now.isEmpty() && j < tape.length() && (now.equals("a")
                    ? tape.charAt(j) >= 'a' && tape.charAt(j) <= 'z' : tape.charAt(j) >= '0' && tape.charAt(j) <= '9')) {
                j++;
            }
            places.add(i);
            tokens.add(tape.substring(i, j));
            glued.add(behind == i && !sort.isEmpty() && !now.isEmpty());
            sort = now;
            behind = j;
            i = j;
        }
        int key = tokens.isEmpty() ? -1 : List.of("weigh", "sign", "show").indexOf(tokens.get(0));
        faultAt = tokens.isEmpty() ? tape.length() : places.get(0);
        if (key < 0) {
            return null;
        }
        String letters = List.of("shb", "shbc", "mwc").get(key);
        Deque<Frame> frames = new ArrayDeque<>();
        frames.push(new Frame());
        boolean wantsPiece = true;
        for (int i = 1; i < tokens.size(); i++) {
            String token = tokens.get(i);
            faultAt = places.get(i);
            char c = token.charAt(0);
            Frame frame = frames.peek();
            if (glued.get(i)) {
                return null;
            }
            if (wantsPiece) {
                if (c >= '0' && c <= '9' && token.length() <= 4) {
                    closePiece(frame, new Node('#', Integer.parseInt(token), null, null));
                    wantsPiece = false;
                } else if (token.length() == 1 && letters.indexOf(c) >= 0) {
                    closePiece(frame, new Node(c, 0, null, null));
                    wantsPiece = false;
                } else if (c == '!' && frames.stream().mapToInt(f -> f.nots).sum() < 8) {
                    frame.nots++;
                } else if (c == '(' && frames.size() <= 8) {
                    frames.push(new Frame());
                } else {
                    return null;
                }
            } else if (c == ')' && frames.size() > 1) {
                fold(frame, 0);
                frames.pop();
                closePiece(frames.peek(), frame.nodes.pop());
            } else if ("|&<=>+-*/".indexOf(c) >= 0) {
                if (level(c) == 2 && frame.tested) {
                    return null;
                }
                frame.tested = level(c) == 2 || level(c) > 2 && frame.tested;
                fold(frame, level(c));
                frame.signs.push(c);
                wantsPiece = true;
            } else {
                return null;
            }
        }
        faultAt = tape.length();
        if (wantsPiece || frames.size() > 1) {
            return null;
        }
        fold(frames.peek(), 0);
        return new Law(key, frames.peek().nodes.pop());
    }

    // ---- what an image keeps

    private static final class World {
        List<int[]> things = new ArrayList<>();
        List<Integer> names = new ArrayList<>();
        List<Word> words = new ArrayList<>();
        List<Law> laws = new ArrayList<>();
        int z = 1;

        World twin() {
            World twin = new World();
            things.forEach(t -> twin.things.add(t.clone()));
            twin.names.addAll(names);
            words.forEach(w -> twin.words.add(sameAs(w)));
            twin.laws.addAll(laws);
            twin.z = z;
            return twin;
        }

        int lawOf(int key) {
            for (int i = laws.size() - 1; i >= 0; i--) {
                if (laws.get(i).key() == key) {
                    return i;
                }
            }
            return NONE;
        }

        List<Word> of(int thing) {
            return words.stream().filter(w -> w.thing == thing).toList();
        }

        List<Word> by(int name) {
            return words.stream().filter(w -> w.name == name).toList();
        }

        static int mean(List<Word> some) {
            return some.isEmpty() ? NONE : 100 * some.stream().mapToInt(w -> w.stars).sum() / some.size();
        }

        static int zero(int v) {
            return v == NONE ? 0 : v;
        }

        int weight(Word word) {
            int weigh = 2;
            if (lawOf(0) != NONE) {
                weigh = laws.get(lawOf(0)).node().worth(names('s', word.stars, 'h', word.hour, 'b', names.get(word.name)));
                weigh = weigh < 0 ? 0 : weigh > 9 ? 9 : weigh;
            }
            return word.weight(weigh);
        }

        int sign(Word word) {
            if (lawOf(1) == NONE) {
                return 0;
            }
            TreeMap<Character, Integer> all = names('s', word.stars, 'h', word.hour, 'b', names.get(word.name));
            all.put('c', by(word.name).size());
            int sign = laws.get(lawOf(1)).node().worth(all);
            return sign < 0 ? 0 : sign > 9 ? 9 : sign;
        }

        int weighed(int thing) {
            int weights = of(thing).stream().mapToInt(this::weight).sum();
            return weights == 0 ? NONE : 100 * of(thing).stream().mapToInt(w -> weight(w) * w.stars).sum() / weights;
        }

        int good(int thing) {
            int weights = of(thing).stream().mapToInt(this::weight).sum();
            return weights == 0 ? NONE : of(thing).stream().mapToInt(w -> weight(w) * w.says()).sum() / weights;
        }

        int span(int thing, boolean high) {
            int buyers = things.get(thing)[1];
            int many = of(thing).size();
            if (buyers == 0 && many == 0) {
                return NONE;
            }
            int all = of(thing).stream().mapToInt(Word::says).sum();
            for (int i = many; high && i < buyers; i++) {
                all += 100;
            }
            return all / (buyers > many ? buyers : many);
        }

        int show(int thing) {
            int mean = zero(mean(of(thing)));
            return lawOf(2) == NONE ? mean
                : laws.get(lawOf(2)).node().worth(names('m', mean, 'w', zero(weighed(thing)), 'c', of(thing).size()));
        }

        List<Integer> shelf() {
            List<Integer> shelf = new ArrayList<>();
            for (int i = 0; i < things.size(); i++) {
                shelf.add(i);
            }
            shelf.sort(Comparator.comparingInt((Integer i) -> show(i)).reversed());
            return shelf;
        }

        int draw() {
            z = z * 1103515245 + 12345;
            return z >>> 8;
        }

        int[] buyer(int hour) {
            int thing = draw() % 3 == 0 ? draw() % things.size() : shelf().get(0);
            int[] told = things.get(thing);
            if (told[1] < 9999) {
                told[1]++;
            }
            int mean = mean(of(thing));
            int off = mean == NONE ? 50 : Math.abs(told[0] - mean / 5);
            if (draw() % 100 >= off || names.isEmpty() || words.size() == 24) {
                return new int[] {thing, 0};
            }
            int stars = told[0] / 20 + 1 > 5 ? 5 : told[0] / 20 + 1;
            words.add(make(1, thing, draw() % names.size(), hour, stars));
            return new int[] {thing, stars};
        }

        int alike(int one, int other, int w) {
            Set<Integer> found = new HashSet<>();
            for (Word a : by(one)) {
                for (Word b : by(other)) {
                    if (a.thing == b.thing && a.stars == b.stars && Math.abs(a.hour - b.hour) <= w) {
                        found.add(a.thing);
                    }
                }
            }
            return found.size();
        }

        /** Grows sets name by name, the greatest name first left out: the least of the greatest comes of comparing. */
        int group(int k, int w) {
            List<Integer> sets = new ArrayList<>(List.of(0));
            for (int name = 0; name < names.size(); name++) {
                List<Integer> near = new ArrayList<>();
                for (int other = 0; other < name; other++) {
                    near.add(alike(name, other, w));
                }
                for (int set : List.copyOf(sets)) {
                    boolean fits = true;
                    for (int other = 0; other < name; other++) {
                        fits &= (set >> other & 1) == 0 || near.get(other) >= k;
                    }
                    if (fits) {
                        sets.add(set | 1 << name);
                    }
                }
            }
            return Collections.min(sets, Comparator.comparingInt((Integer s) -> -Integer.bitCount(s))
                .thenComparingInt(s -> s));
        }

        int within(int from, int w) {
            return (int) words.stream().filter(x -> x.hour >= from && x.hour <= from + w - 1).count();
        }

        int wave(int w) {
            int best = 0;
            for (int h = 0; h <= 999; h++) {
                if (within(h, w) > within(best, w)) {
                    best = h;
                }
            }
            return best;
        }

        int[] changed(int thing) {
            int[] best = {NONE, NONE};
            for (int t = 0; t <= 999; t++) {
                int hour = t;
                List<Word> before = of(thing).stream().filter(x -> x.hour < hour).toList();
                List<Word> behind = of(thing).stream().filter(x -> x.hour >= hour).toList();
                boolean starts = behind.stream().anyMatch(x -> x.hour == hour);
                if (starts && !before.isEmpty() && Math.abs(mean(before) - mean(behind)) > best[1]) {
                    best = new int[] {t, Math.abs(mean(before) - mean(behind))};
                }
            }
            return best;
        }

        int off(int v, boolean wronged) {
            return (int) words.stream().filter(x -> sign(x) >= v && x.isTrue() == wronged).count();
        }

        private static TreeMap<Character, Integer> names(char a, int x, char b, int y, char c, int z) {
            TreeMap<Character, Integer> all = new TreeMap<>();
            all.put(a, x);
            all.put(b, y);
            all.put(c, z);
            return all;
        }
    }

    private World world = new World();
    private World image = null;
    private final StringBuilder tape = new StringBuilder();
    private final List<Integer> waiting = new ArrayList<>();
    /** A row: short[] or Float[] (null: NO NUMBER). */
    private final Object[] sheets = new Object[4];
    private final Object[] slots = new Object[5];

    private static boolean in(int v, int least, int most) {
        return least <= v && v <= most;
    }
    private boolean thingIs(int v) { return in(v, 0, world.things.size() - 1); }
    private boolean nameIs(int v) { return in(v, 0, world.names.size() - 1); }
    private boolean wordIs(int v) { return in(v, 0, world.words.size() - 1); }
    private boolean pairIs(int of) { return of >= 0 && thingIs(of / 100) && nameIs(of % 100); }
    private static boolean momentIs(int at) { return at >= 0 && at <= 9999 && in(at % 10, 1, 5); }

    int thing(int w) {
        if (!in(w, 0, 100)) return BAD;
        if (world.things.size() == 6) return FULL;
        world.things.add(new int[] {w, 0});
        return world.things.size() - 1;
    }

    int thingTold(int thing, int what) {
        if (!thingIs(thing) || !in(what, 0, 3)) return BAD;
        return what < 2 ? world.things.get(thing)[what] : what == 2 ? world.of(thing).size() : world.shelf().indexOf(thing);
    }

    int set(int thing, int what, int v) {
        if (!thingIs(thing) || !in(what, 0, 1) || v < 0 || v > (what == 0 ? 100 : 9999)) return BAD;
        int was = world.things.get(thing)[what];
        world.things.get(thing)[what] = v;
        return was;
    }

    int name(int born) {
        if (!in(born, 0, 999)) return BAD;
        if (world.names.size() == 12) return FULL;
        world.names.add(born);
        return world.names.size() - 1;
    }

    int nameTold(int name, int what) {
        if (!nameIs(name) || !in(what, 0, 2)) return BAD;
        return what == 0 ? world.names.get(name) : what == 1 ? world.by(name).size()
            : world.by(name).stream().mapToInt(x -> x.hour).min().orElse(NONE);
    }

    int word(int kind, int of, int at) {
        if (!in(kind, 0, 5) || !pairIs(of) || !momentIs(at)) return BAD;
        if (world.words.size() == 24) return FULL;
        world.words.add(make(kind, of / 100, of % 100, at / 10, at % 10));
        return world.words.size() - 1;
    }

    int told(int word, int what) {
        if (!wordIs(word) || !in(what, 0, 8)) return BAD;
        Word told = world.words.get(word);
        return switch (what) {
            case 0 -> told.kind();
            case 1 -> told.thing;
            case 2 -> told.name;
            case 3 -> told.hour;
            case 4 -> told.stars;
            case 5 -> world.weight(told);
            case 6 -> told.says();
            case 7 -> world.sign(told);
            default -> told.isTrue() ? 1 : 0;
        };
    }

    int as(int word, int kind) {
        if (!wordIs(word) || !in(kind, 0, 5)) return BAD;
        return isOf(world.words.get(word), kind) ? world.words.get(word).stars : KIND;
    }

    int turns(int word, int kind) {
        if (!wordIs(word) || !in(kind, 0, 5)) return BAD;
        Word was = world.words.get(word);
        world.words.set(word, make(kind, was.thing, was.name, was.hour, was.stars));
        return was.kind();
    }

    int star(int word, int v) {
        if (!wordIs(word) || !in(v, 1, 5)) return BAD;
        int was = world.words.get(word).stars;
        world.words.get(word).stars = v;
        return was;
    }

    int drop(int word) {
        if (!wordIs(word)) return BAD;
        world.words.remove(word);
        return world.words.size();
    }

    int mean(int thing, int what) {
        if (!thingIs(thing) || !in(what, 0, 5)) return BAD;
        List<Word> of = world.of(thing);
        if (what == 5) {
            List<Word> more = new ArrayList<>(of);
            more.add(make(0, thing, 0, 0, 5));
            return World.mean(more) - World.zero(World.mean(of));
        }
        return what == 0 ? World.mean(of) : what == 1 ? world.weighed(thing) : what == 2 ? world.good(thing)
            : world.span(thing, what == 4);
    }

    int shelf(int place) {
        return place < 0 ? BAD : place >= world.things.size() ? NONE : world.shelf().get(place);
    }

    int alike(int one, int other, int w) {
        return !nameIs(one) || !nameIs(other) || one == other || !in(w, 0, 999) ? BAD : world.alike(one, other, w);
    }

    int group(int k, int w) {
        return !in(k, 1, 6) || !in(w, 0, 999) ? BAD : world.group(k, w);
    }

    int wave(int w, int what) {
        if (!in(w, 1, 1000) || !in(what, 0, 1)) return BAD;
        if (world.words.isEmpty()) return NONE;
        return what == 0 ? world.wave(w) : world.within(world.wave(w), w);
    }

    int changed(int thing, int what) {
        return !thingIs(thing) || !in(what, 0, 1) ? BAD : world.changed(thing)[what];
    }

    int off(int v, int what) {
        return !in(v, 0, 10) || !in(what, 0, 1) ? BAD : world.off(v, what == 1);
    }

    int bound(int what) {
        if (!in(what, 0, 1)) return BAD;
        int best = 0;
        for (int v = 0; v <= 10; v++) {
            if (world.off(v, false) - world.off(v, true) >= world.off(best, false) - world.off(best, true)) {
                best = v;
            }
        }
        return what == 0 ? best : world.off(best, false) - world.off(best, true);
    }

    int clean(int v) {
        if (!in(v, 0, 10)) return BAD;
        List<Word> gone = world.words.stream().filter(x -> world.sign(x) >= v).toList();
        for (Word x : gone) {
            world.words.removeIf(y -> y == x);
        }
        return gone.size();
    }

    int buy(int n, int hour) {
        if (!in(n, 1, 20) || !in(hour, 0, 999)) return BAD;
        if (world.things.isEmpty()) return NO;
        int had = world.words.size();
        for (int i = 0; i < n; i++) {
            world.buyer(hour);
        }
        return world.words.size() - had;
    }

    int job(int thing, int n, int hour, int stars) {
        if (!thingIs(thing) || !in(n, 1, 12) || !in(hour, 0, 999) || !in(stars, 1, 5) || hour + n > 1000) return BAD;
        if (world.names.isEmpty()) return NO;
        if (world.words.size() + n > 24) return FULL;
        for (int i = 0; i < n; i++) {
            world.words.add(make(2, thing, i % world.names.size(), hour + i, stars));
        }
        return world.words.size() - n;
    }

    int seed(int v) {
        int was = world.z;
        world.z = v;
        return was;
    }

    int feed(int a, int b, int c) {
        if (tape.length() > 84) return FULL;
        for (int four : new int[] {a, b, c}) {
            tape.append((char) (four >>> 24)).append((char) (four >> 16 & 255));
            tape.append((char) (four >> 8 & 255)).append((char) (four & 255));
        }
        return tape.length();
    }

    int trim(int n) {
        if (!in(n, 0, tape.length())) return BAD;
        tape.setLength(n);
        return n;
    }

    int text() {
        Law law = read(tape.toString());
        tape.setLength(0);
        if (law == null) return -100 - faultAt;
        if (world.laws.size() == 14) return FULL;
        world.laws.add(law);
        return world.laws.size() - 1;
    }

    int textTold(int text, int what) {
        if (!in(text, 0, world.laws.size() - 1) || !in(what, 0, 1)) return BAD;
        return what == 0 ? world.laws.get(text).key() : world.laws.get(text).node().leaves();
    }

    int why(int key) {
        return in(key, 0, 2) ? world.lawOf(key) : BAD;
    }

    int sheet(int sheet, int sort, int n) {
        if (!in(sheet, 0, 3) || !in(sort, -1, 1) || sort != -1 && n > 24) return BAD;
        if (sort == -1) {
            sheets[sheet] = null;
            return 0;
        }
        if (n < 0) return SIZE;
        Float[] floats = new Float[n];
        java.util.Arrays.fill(floats, 0f);
        sheets[sheet] = sort == 0 ? new short[n] : floats;
        return n;
    }

    private static int length(Object row) {
        return row instanceof short[] s ? s.length : ((Float[]) row).length;
    }

    /** null: NO NUMBER. */
    private static Integer at(Object row, int place) {
        if (row instanceof short[] s) return (int) s[place];
        Float v = ((Float[]) row)[place];
        return v == null ? null : Integer.valueOf(v.intValue());
    }

    int mark(int sheet, int place, int v) {
        if (!in(sheet, 0, 3)) return BAD;
        if (sheets[sheet] == null) return NOTHING;
        if (!in(place, 0, length(sheets[sheet]) - 1)) return INDEX;
        if (sheets[sheet] instanceof short[] s) {
            if (v == NONE) return KIND;
            s[place] = (short) v;
            return 1;
        }
        if (v != NONE && !in(v, -99999, 99999)) return BAD;
        ((Float[]) sheets[sheet])[place] = v == NONE ? null : Float.valueOf(v);
        return 1;
    }

    int pour(int sheet, int of) {
        if (!in(sheet, 0, 3) || !pairIs(of)) return BAD;
        if (sheets[sheet] == null) return NOTHING;
        List<Word> come = new ArrayList<>();
        for (int i = 0; i < length(sheets[sheet]); i++) {
            Integer at = at(sheets[sheet], i);
            if (at == null || !momentIs(at)) break;
            come.add(make(0, of / 100, of % 100, at / 10, at % 10));
        }
        if (world.words.size() + come.size() > 24) return FULL;
        world.words.addAll(come);
        return come.size();
    }

    int reads(int sheet) {
        if (!in(sheet, 0, 3)) return BAD;
        if (sheets[sheet] == null) return NOTHING;
        for (int i = 0; i < length(sheets[sheet]); i++) {
            Integer v = at(sheets[sheet], i);
            if (v != null && (!thingIs(i) || v != World.zero(World.mean(world.of(i))))) return i;
        }
        return NONE;
    }

    int copy(int from, int place, int to, int at, int many) {
        if (!in(from, 0, 3) || !in(to, 0, 3)) return BAD;
        if (sheets[from] == null || sheets[to] == null) return NOTHING;
        if (sheets[from].getClass() != sheets[to].getClass()) return KIND;
        if (many < 0 || place < 0 || at < 0) return INDEX;
        if ((long) place + many > length(sheets[from]) || (long) at + many > length(sheets[to])) return INDEX;
        Object were = sheets[from] instanceof short[] s ? s.clone() : ((Float[]) sheets[from]).clone();
        for (int i = 0; i < many; i++) {
            if (were instanceof short[] s) {
                ((short[]) sheets[to])[at + i] = s[place + i];
            } else {
                ((Float[]) sheets[to])[at + i] = ((Float[]) were)[place + i];
            }
        }
        return many;
    }

    private static int held(Object slot) {
        return slot == null ? 0 : slot instanceof Word ? 1 : slot instanceof Integer ? 3 : 2;
    }

    int lay(int slot, int thing, int k) {
        if (!in(slot, 0, 4) || !in(thing, 0, 3)) return BAD;
        if (thing == 1 && !wordIs(k) || thing == 2 && !in(k, 0, 3)) return BAD;
        if (thing == 2 && sheets[k] == null) return NOTHING;
        int was = held(slots[slot]);
        slots[slot] = thing == 0 ? null : thing == 1 ? sameAs(world.words.get(k)) : thing == 3 ? (Object) k
            : sheets[k] instanceof short[] s ? s.clone() : ((Float[]) sheets[k]).clone();
        return was;
    }

    int ask(int slot, int kind) {
        if (!in(slot, 0, 4) || !in(kind, 0, 5)) return BAD;
        if (slots[slot] == null) return NOTHING;
        return slots[slot] instanceof Word w && isOf(w, kind) ? w.says() : KIND;
    }

    int item(int slot, int place) {
        if (!in(slot, 0, 4)) return BAD;
        if (slots[slot] == null) return NOTHING;
        if (held(slots[slot]) != 2) return KIND;
        if (!in(place, 0, length(slots[slot]) - 1)) return INDEX;
        Integer v = at(slots[slot], place);
        return v == null ? KIND : v;
    }

    int rest(int slot, int n) {
        if (!in(slot, 0, 4)) return BAD;
        if (slots[slot] == null) return NOTHING;
        if (!(slots[slot] instanceof Integer)) return KIND;
        return n == 0 ? NO : (Integer) slots[slot] % n;
    }

    int tell(int v) {
        if (waiting.size() == 60) return FULL;
        waiting.add(v);
        return waiting.size();
    }

    int check(int n, int hour) {
        List<Integer> said = new ArrayList<>(waiting);
        waiting.clear();
        if (!in(n, 1, 30) || !in(hour, 0, 999)) return BAD;
        if (image == null || image.things.isEmpty()) return NO;
        List<Integer> due = buyersTold(n, hour);
        for (int i = 0; i < Math.max(due.size(), said.size()); i++) {
            if (i >= due.size() || i >= said.size() || !due.get(i).equals(said.get(i))) return 1 + i;
        }
        return 0;
    }

    boolean hasImage() {
        return image != null && !image.things.isEmpty();
    }

    /** Also for ModelTest, so that it can tell rows that are right. */
    List<Integer> buyersTold(int n, int hour) {
        World trial = image.twin();
        List<Integer> due = new ArrayList<>();
        for (int i = 0; i < n; i++) {
            int[] came = trial.buyer(hour);
            due.add(came[0]);
            due.add(came[1]);
        }
        return due;
    }

    int keep() {
        image = world.twin();
        return world.words.size();
    }

    int back() {
        if (image == null) return NO;
        world = image.twin();
        return world.words.size();
    }

    int count(int what) {
        return switch (what) {
            case 0 -> world.things.size();
            case 1 -> world.names.size();
            case 2 -> world.words.size();
            case 3 -> (int) world.words.stream().filter(Word::isTrue).count();
            case 4 -> world.laws.size();
            case 5 -> waiting.size();
            case 6 -> tape.length();
            case 7 -> world.z;
            default -> BAD;
        };
    }
}
