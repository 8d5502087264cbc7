import java.util.Arrays;

/** Things, names that write of them, and what their stars tell. The document's promises say what each call does. */
public final class FiveStars {
    public static final int BAD = -1000000001, NO = -1000000002, FULL = -1000000003, NONE = -1000000005,
        NOTHING = -1000000011, KIND = -1000000012, INDEX = -1000000013, SIZE = -1000000014;

    private static final int MOST_THINGS = 6, MOST_NAMES = 12, MOST_WORDS = 24, MOST_TEXTS = 14;
    private static final int MOST_BYTES = 96, MOST_PLACES = 24, MOST_WAITING = 60;
    private static final int SHEETS = 4, SLOTS = 5;
    private static final int MOST_WORTH = 100, MOST_BUYERS = 9999, LAST_HOUR = 999, MOST_STARS = 5;
    private static final int LAST_KIND = 5, LAST_BOUND = 10;
    private static final int WEIGH = 0, SIGN = 1, SHOW = 2;
    private static final int HOLDS_NOTHING = 0, HOLDS_WORD = 1, HOLDS_SHEET = 2, HOLDS_NUMBER = 3;

    private final Room room = new Room();
    private final Groups groups = new Groups();
    private final Tape tape = new Tape();
    private final Reader reader = new Reader(tape);
    private final Sheet[] sheets = new Sheet[SHEETS];
    private final Slot[] slots = new Slot[SLOTS];
    private final int[] waiting = new int[MOST_WAITING];
    private int waits = 0;
    // Made by the first keep and the first check: most objects never need them.
    private Room image = null;
    private Room trial = null;

    public FiveStars() {
        for (int i = 0; i < SHEETS; i++) {
            sheets[i] = new Sheet();
        }
        for (int i = 0; i < SLOTS; i++) {
            slots[i] = new Slot();
        }
    }

    // ---- things, names

    public int thing(int w) {
        return within(w, 0, MOST_WORTH) ? room.addThing(w) : BAD;
    }

    public int thingTold(int thing, int what) {
        if (!isThing(thing)) {
            return BAD;
        }
        switch (what) {
            case 0:
                return room.worth[thing];
            case 1:
                return room.buyers[thing];
            case 2:
                return room.words.countOf(thing);
            case 3:
                room.rank();
                return room.placeOf(thing);
            default:
                return BAD;
        }
    }

    public int set(int thing, int what, int v) {
        if (!isThing(thing) || !within(what, 0, 1) || !within(v, 0, what == 0 ? MOST_WORTH : MOST_BUYERS)) {
            return BAD;
        }
        int[] row = what == 0 ? room.worth : room.buyers;
        int was = row[thing];
        row[thing] = v;
        return was;
    }

    public int name(int born) {
        return isHour(born) ? room.addName(born) : BAD;
    }

    public int nameTold(int name, int what) {
        if (!within(name, 0, room.names - 1)) {
            return BAD;
        }
        switch (what) {
            case 0:
                return room.born[name];
            case 1:
                return room.words.countBy(name);
            case 2:
                return room.words.firstHourBy(name);
            default:
                return BAD;
        }
    }

    // ---- words

    public int word(int kind, int of, int at) {
        if (!isKind(kind) || !isPair(of) || !isMoment(at)) {
            return BAD;
        }
        return room.words.write(kind, of / 100, of % 100, at / 10, at % 10);
    }

    public int told(int word, int what) {
        if (!isWord(word)) {
            return BAD;
        }
        Words words = room.words;
        switch (what) {
            case 0:
                return words.kind[word];
            case 1:
                return words.of[word];
            case 2:
                return words.by[word];
            case 3:
                return words.hour[word];
            case 4:
                return words.stars[word];
            case 5:
                return room.weightOf(word);
            case 6:
                return words.saysOf(word);
            case 7:
                return room.signOf(word);
            case 8:
                return Kinds.isTrue(words.kind[word]) ? 1 : 0;
            default:
                return BAD;
        }
    }

    public int as(int word, int kind) {
        if (!isWord(word) || !isKind(kind)) {
            return BAD;
        }
        return Kinds.isUnder(room.words.kind[word], kind) ? room.words.stars[word] : KIND;
    }

    public int turns(int word, int kind) {
        if (!isWord(word) || !isKind(kind)) {
            return BAD;
        }
        int was = room.words.kind[word];
        room.words.kind[word] = kind;
        return was;
    }

    public int star(int word, int v) {
        if (!isWord(word) || !isStars(v)) {
            return BAD;
        }
        int was = room.words.stars[word];
        room.words.stars[word] = v;
        return was;
    }

    public int drop(int word) {
        if (!isWord(word)) {
            return BAD;
        }
        room.words.remove(word);
        return room.words.size;
    }

    // ---- means

    public int mean(int thing, int what) {
        if (!isThing(thing)) {
            return BAD;
        }
        switch (what) {
            case 0:
                return room.words.meanOf(thing);
            case 1:
                return room.weighedOf(thing, true);
            case 2:
                return room.weighedOf(thing, false);
            case 3:
                return room.spanOf(thing, false);
            case 4:
                return room.spanOf(thing, true);
            case 5:
                return room.words.starWorthOf(thing);
            default:
                return BAD;
        }
    }

    public int shelf(int place) {
        if (place < 0) {
            return BAD;
        }
        if (place >= room.things) {
            return NONE;
        }
        room.rank();
        return room.atPlace(place);
    }

    // ---- groups, waves, changes

    public int alike(int one, int other, int w) {
        int last = room.names - 1;
        if (!within(one, 0, last) || !within(other, 0, last) || one == other || !isHour(w)) {
            return BAD;
        }
        return room.words.timesAlike(one, other, w);
    }

    public int group(int k, int w) {
        if (!within(k, 1, MOST_THINGS) || !isHour(w)) {
            return BAD;
        }
        return groups.greatest(room, k, w);
    }

    public int wave(int w, int what) {
        if (!within(w, 1, LAST_HOUR + 1) || !within(what, 0, 1)) {
            return BAD;
        }
        if (room.words.size == 0) {
            return NONE;
        }
        int from = room.words.waveFrom(w);
        return what == 0 ? from : room.words.countWithin(from, w);
    }

    public int changed(int thing, int what) {
        if (!isThing(thing) || !within(what, 0, 1)) {
            return BAD;
        }
        int at = room.words.changeOf(thing);
        if (at == NONE) {
            return NONE;
        }
        return what == 0 ? at : room.words.changeBy(thing, at);
    }

    // ---- signs

    public int off(int v, int what) {
        if (!within(v, 0, LAST_BOUND) || !within(what, 0, 1)) {
            return BAD;
        }
        room.fillSigns();
        return room.takenOff(v, what == 1);
    }

    public int bound(int what) {
        if (!within(what, 0, 1)) {
            return BAD;
        }
        room.fillSigns();
        int best = room.bestBound();
        return what == 0 ? best : room.gainOf(best);
    }

    public int clean(int v) {
        if (!within(v, 0, LAST_BOUND)) {
            return BAD;
        }
        room.fillSigns();
        return room.takeOff(v);
    }

    // ---- buyers, jobs

    public int buy(int n, int hour) {
        if (!within(n, 1, 20) || !isHour(hour)) {
            return BAD;
        }
        if (room.things == 0) {
            return NO;
        }
        int wrote = 0;
        for (int i = 0; i < n; i++) {
            if (room.buyerComes(hour) % 10 > 0) {
                wrote++;
            }
        }
        return wrote;
    }

    public int job(int thing, int n, int hour, int stars) {
        if (!isThing(thing) || !within(n, 1, 12) || !isHour(hour) || !isStars(stars) || !isHour(hour + n - 1)) {
            return BAD;
        }
        if (room.names == 0) {
            return NO;
        }
        if (room.words.room() < n) {
            return FULL;
        }
        int first = room.words.size;
        for (int i = 0; i < n; i++) {
            room.words.write(Kinds.PAID, thing, i % room.names, hour + i, stars);
        }
        return first;
    }

    public int seed(int v) {
        int was = room.z;
        room.z = v;
        return was;
    }

    // ---- texts

    public int feed(int a, int b, int c) {
        if (tape.size + 12 > MOST_BYTES) {
            return FULL;
        }
        tape.take(a);
        tape.take(b);
        tape.take(c);
        return tape.size;
    }

    public int trim(int n) {
        if (!within(n, 0, tape.size)) {
            return BAD;
        }
        tape.size = n;
        return n;
    }

    public int text() {
        Text found = reader.read();
        tape.size = 0;
        return found == null ? -100 - reader.fault : room.addText(found);
    }

    public int textTold(int text, int what) {
        if (!within(text, 0, room.texts - 1) || !within(what, 0, 1)) {
            return BAD;
        }
        Text found = room.laws[text];
        if (found == null) {
            return BAD;
        }
        return what == 0 ? found.key : found.leaves;
    }

    public int why(int key) {
        if (!within(key, WEIGH, SHOW)) {
            return BAD;
        }
        return room.counting[key] < 0 ? NONE : room.counting[key];
    }

    // ---- sheets, slots

    public int sheet(int sheet, int sort, int n) {
        if (!isSheet(sheet) || !within(sort, Sheet.MISSING, Sheet.FLOATS)) {
            return BAD;
        }
        int size = sort == Sheet.MISSING ? 0 : n;
        if (size > MOST_PLACES) {
            return BAD;
        }
        if (size < 0) {
            return SIZE;
        }
        sheets[sheet].become(sort, size);
        return size;
    }

    public int mark(int sheet, int place, int v) {
        if (!isSheet(sheet)) {
            return BAD;
        }
        Sheet row = sheets[sheet];
        if (row.isMissing()) {
            return NOTHING;
        }
        if (!row.has(place)) {
            return INDEX;
        }
        if (row.sort == Sheet.SHORTS) {
            if (v == NONE) {
                return KIND;
            }
            row.places[place] = (short) v;
            return 1;
        }
        if (v != NONE && !within(v, -99999, 99999)) {
            return BAD;
        }
        row.places[place] = v;
        return 1;
    }

    public int pour(int sheet, int of) {
        if (!isSheet(sheet) || !isPair(of)) {
            return BAD;
        }
        Sheet row = sheets[sheet];
        if (row.isMissing()) {
            return NOTHING;
        }
        int many = momentsOn(row);
        if (room.words.room() < many) {
            return FULL;
        }
        for (int i = 0; i < many; i++) {
            room.words.write(Kinds.WORD, of / 100, of % 100, row.places[i] / 10, row.places[i] % 10);
        }
        return many;
    }

    public int reads(int sheet) {
        if (!isSheet(sheet)) {
            return BAD;
        }
        Sheet row = sheets[sheet];
        if (row.isMissing()) {
            return NOTHING;
        }
        for (int i = 0; i < row.size; i++) {
            boolean isNumber = row.places[i] != NONE;
            if (isNumber && (i >= room.things || row.places[i] != room.words.meanOrZero(i))) {
                return i;
            }
        }
        return NONE;
    }

    public int copy(int from, int place, int to, int at, int many) {
        if (!isSheet(from) || !isSheet(to)) {
            return BAD;
        }
        Sheet source = sheets[from];
        Sheet goal = sheets[to];
        if (source.isMissing() || goal.isMissing()) {
            return NOTHING;
        }
        if (source.sort != goal.sort) {
            return KIND;
        }
        if (many < 0 || !source.hasRun(place, many) || !goal.hasRun(at, many)) {
            return INDEX;
        }
        System.arraycopy(source.places, place, goal.places, at, many);
        return many;
    }

    public int lay(int slot, int thing, int k) {
        if (!isSlot(slot) || !within(thing, HOLDS_NOTHING, HOLDS_NUMBER)) {
            return BAD;
        }
        if (thing == HOLDS_WORD && !isWord(k) || thing == HOLDS_SHEET && !isSheet(k)) {
            return BAD;
        }
        if (thing == HOLDS_SHEET && sheets[k].isMissing()) {
            return NOTHING;
        }
        Slot place = slots[slot];
        int was = place.holds;
        place.holds = thing;
        if (thing == HOLDS_WORD) {
            place.kind = room.words.kind[k];
            place.says = room.words.saysOf(k);
        } else if (thing == HOLDS_SHEET) {
            place.takeSheet(sheets[k]);
        } else if (thing == HOLDS_NUMBER) {
            place.number = k;
        }
        return was;
    }

    public int ask(int slot, int kind) {
        if (!isSlot(slot) || !isKind(kind)) {
            return BAD;
        }
        Slot place = slots[slot];
        if (place.holds == HOLDS_NOTHING) {
            return NOTHING;
        }
        if (place.holds != HOLDS_WORD || !Kinds.isUnder(place.kind, kind)) {
            return KIND;
        }
        return place.says;
    }

    public int item(int slot, int place) {
        if (!isSlot(slot)) {
            return BAD;
        }
        Slot found = slots[slot];
        if (found.holds == HOLDS_NOTHING) {
            return NOTHING;
        }
        if (found.holds != HOLDS_SHEET || found.sheet == null) {
            return KIND;
        }
        if (!found.sheet.has(place)) {
            return INDEX;
        }
        int v = found.sheet.places[place];
        return v == NONE ? KIND : v;
    }

    public int rest(int slot, int n) {
        if (!isSlot(slot)) {
            return BAD;
        }
        Slot place = slots[slot];
        if (place.holds == HOLDS_NOTHING) {
            return NOTHING;
        }
        if (place.holds != HOLDS_NUMBER) {
            return KIND;
        }
        return n == 0 ? NO : place.number % n;
    }

    // ---- rows, images

    public int tell(int v) {
        if (waits >= MOST_WAITING) {
            return FULL;
        }
        waiting[waits] = v;
        waits++;
        return waits;
    }

    public int check(int n, int hour) {
        int told = waits;
        waits = 0;
        if (!within(n, 1, MOST_WAITING / 2) || !isHour(hour)) {
            return BAD;
        }
        if (image == null || image.things == 0) {
            return NO;
        }
        if (trial == null) {
            trial = new Room();
        }
        trial.become(image);
        for (int i = 0; i < n; i++) {
            int came = trial.buyerComes(hour);
            int at = 2 * i;
            if (at >= told || waiting[at] != came / 10) {
                return 1 + at;
            }
            if (at + 1 >= told || waiting[at + 1] != came % 10) {
                return 2 + at;
            }
        }
        return told > 2 * n ? 1 + 2 * n : 0;
    }

    public int keep() {
        if (image == null) {
            image = new Room();
        }
        image.become(room);
        return room.words.size;
    }

    public int back() {
        if (image == null) {
            return NO;
        }
        room.become(image);
        return room.words.size;
    }

    public int count(int what) {
        switch (what) {
            case 0:
                return room.things;
            case 1:
                return room.names;
            case 2:
                return room.words.size;
            case 3:
                return room.words.countTrue();
            case 4:
                return room.texts;
            case 5:
                return waits;
            case 6:
                return tape.size;
            case 7:
                return room.z;
            default:
                return BAD;
        }
    }

    // ---- what an argument may be

    private static boolean within(int v, int least, int most) {
        return v >= least && v <= most;
    }

    private static boolean isHour(int v) {
        return within(v, 0, LAST_HOUR);
    }

    private static boolean isStars(int v) {
        return within(v, 1, MOST_STARS);
    }

    private static boolean isKind(int v) {
        return within(v, 0, LAST_KIND);
    }

    private static boolean isSheet(int v) {
        return within(v, 0, SHEETS - 1);
    }

    private static boolean isSlot(int v) {
        return within(v, 0, SLOTS - 1);
    }

    private boolean isThing(int v) {
        return within(v, 0, room.things - 1);
    }

    private boolean isWord(int v) {
        return within(v, 0, room.words.size - 1);
    }

    /** 100 times a THING, and a NAME. */
    private boolean isPair(int of) {
        return of >= 0 && of / 100 < room.things && of % 100 < room.names;
    }

    /** 10 times an HOUR, and STARS. */
    private static boolean isMoment(int at) {
        return at >= 0 && isHour(at / 10) && isStars(at % 10);
    }

    /** NONE, which stands for NO NUMBER, is below 0 and so ends the row too. */
    private static int momentsOn(Sheet row) {
        int many = 0;
        while (many < row.size && isMoment(row.places[many])) {
            many++;
        }
        return many;
    }

    /** What a WORD's KIND makes of it. */
    private static final class Kinds {
        static final int WORD = 0, BOUGHT = 1, PAID = 2, THANKED = 3, MOVED = 4, RIVAL = 5;
        private static final int[] ABOVE = {-1, WORD, WORD, BOUGHT, PAID, WORD};

        static boolean isUnder(int kind, int above) {
            int at = kind;
            for (int step = 0; step < ABOVE.length && at >= 0; step++) {
                if (at == above) {
                    return true;
                }
                at = ABOVE[at];
            }
            return false;
        }

        static boolean isTrue(int kind) {
            return !isUnder(kind, PAID) && !isUnder(kind, RIVAL);
        }

        static int says(int kind, int stars) {
            int asWord = 20 * stars;
            switch (kind) {
                case THANKED:
                    return asWord - 20;
                case PAID:
                    return 50;
                case MOVED:
                    return 50 + stars;
                case RIVAL:
                    return 100 - asWord;
                default:
                    return asWord;
            }
        }

        static int weight(int kind, int asWord, int hour) {
            int asPaid = Math.max(0, asWord - 1);
            switch (kind) {
                case BOUGHT:
                    return asWord + 1;
                case THANKED:
                    return (asWord + 1) / 2;
                case PAID:
                    return asPaid;
                case MOVED:
                    return hour % 2 == 0 ? asPaid : 0;
                case RIVAL:
                    return 0;
                default:
                    return asWord;
            }
        }
    }

    /** The WORDS, one a column, and what can be told from them alone. */
    private static final class Words {
        int size = 0;
        final int[] kind = new int[MOST_WORDS];
        final int[] of = new int[MOST_WORDS];
        final int[] by = new int[MOST_WORDS];
        final int[] hour = new int[MOST_WORDS];
        final int[] stars = new int[MOST_WORDS];

        int room() {
            return MOST_WORDS - size;
        }

        /** The number of the new one, or FULL. */
        int write(int newKind, int thing, int name, int newHour, int newStars) {
            int number = size;
            if (number >= MOST_WORDS) {
                return FULL;
            }
            kind[number] = newKind;
            of[number] = thing;
            by[number] = name;
            hour[number] = newHour;
            stars[number] = newStars;
            size++;
            return number;
        }

        private void move(int from, int to) {
            kind[to] = kind[from];
            of[to] = of[from];
            by[to] = by[from];
            hour[to] = hour[from];
            stars[to] = stars[from];
        }

        void remove(int word) {
            for (int i = word + 1; i < size; i++) {
                move(i, i - 1);
            }
            size--;
        }

        /** Those of which the sign is below the bound stay, in their order. */
        void keepBelow(int bound, int[] signs) {
            int stay = 0;
            for (int i = 0; i < size; i++) {
                if (signs[i] < bound) {
                    move(i, stay);
                    stay++;
                }
            }
            size = stay;
        }

        void become(Words other) {
            size = other.size;
            System.arraycopy(other.kind, 0, kind, 0, size);
            System.arraycopy(other.of, 0, of, 0, size);
            System.arraycopy(other.by, 0, by, 0, size);
            System.arraycopy(other.hour, 0, hour, 0, size);
            System.arraycopy(other.stars, 0, stars, 0, size);
        }

        int saysOf(int word) {
            return Kinds.says(kind[word], stars[word]);
        }

        int countOf(int thing) {
            int found = 0;
            for (int i = 0; i < size; i++) {
                if (of[i] == thing) {
                    found++;
                }
            }
            return found;
        }

        int countBy(int name) {
            int found = 0;
            for (int i = 0; i < size; i++) {
                if (by[i] == name) {
                    found++;
                }
            }
            return found;
        }

        int countTrue() {
            int found = 0;
            for (int i = 0; i < size; i++) {
                if (Kinds.isTrue(kind[i])) {
                    found++;
                }
            }
            return found;
        }

        int firstHourBy(int name) {
            int first = NONE;
            for (int i = 0; i < size; i++) {
                if (by[i] == name && (first == NONE || hour[i] < first)) {
                    first = hour[i];
                }
            }
            return first;
        }

        private int allStarsOf(int thing) {
            int all = 0;
            for (int i = 0; i < size; i++) {
                if (of[i] == thing) {
                    all += stars[i];
                }
            }
            return all;
        }

        int meanOf(int thing) {
            int many = countOf(thing);
            return many == 0 ? NONE : 100 * allStarsOf(thing) / many;
        }

        int meanOrZero(int thing) {
            return Math.max(0, meanOf(thing));
        }

        int starWorthOf(int thing) {
            int with = 100 * (allStarsOf(thing) + MOST_STARS) / (countOf(thing) + 1);
            return with - meanOrZero(thing);
        }

        int timesAlike(int one, int other, int w) {
            int things = 0;
            for (int i = 0; i < size; i++) {
                for (int j = 0; by[i] == one && j < size; j++) {
                    if (by[j] == other && areAlike(i, j, w)) {
                        things |= 1 << of[i];
                    }
                }
            }
            return Integer.bitCount(things);
        }

        private boolean areAlike(int i, int j, int w) {
            return of[i] == of[j] && stars[i] == stars[j] && Math.abs(hour[i] - hour[j]) <= w;
        }

        int countWithin(int from, int w) {
            int found = 0;
            for (int i = 0; i < size; i++) {
                if (hour[i] >= from && hour[i] < from + w) {
                    found++;
                }
            }
            return found;
        }

        /** More WORDS come in only where one becomes the window's last hour, so no other start can be the least. */
        int waveFrom(int w) {
            int best = 0;
            int most = 0;
            for (int i = 0; i < size; i++) {
                int from = Math.max(0, hour[i] - w + 1);
                int many = countWithin(from, w);
                if (many > most || many == most && from < best) {
                    best = from;
                    most = many;
                }
            }
            return best;
        }

        /** The HOUR in which a THING is CHANGED. */
        int changeOf(int thing) {
            int best = NONE;
            int most = NONE;
            for (int i = 0; i < size; i++) {
                int much = of[i] == thing ? changeBy(thing, hour[i]) : NONE;
                if (much > most || much != NONE && much == most && hour[i] < best) {
                    best = hour[i];
                    most = much;
                }
            }
            return best;
        }

        /** By how much MEANS ahead of an HOUR and from it on differ; NONE if there is none on one side. */
        int changeBy(int thing, int at) {
            int before = 0;
            int starsBefore = 0;
            int behind = 0;
            int starsBehind = 0;
            for (int i = 0; i < size; i++) {
                if (of[i] == thing && hour[i] < at) {
                    before++;
                    starsBefore += stars[i];
                } else if (of[i] == thing) {
                    behind++;
                    starsBehind += stars[i];
                }
            }
            if (before == 0 || behind == 0) {
                return NONE;
            }
            return Math.abs(100 * starsBefore / before - 100 * starsBehind / behind);
        }
    }

    /** All that AN IMAGE keeps. */
    private static final class Room {
        int things = 0;
        final int[] worth = new int[MOST_THINGS];
        final int[] buyers = new int[MOST_THINGS];
        int names = 0;
        final int[] born = new int[MOST_NAMES];
        final Words words = new Words();
        int texts = 0;
        final Text[] laws = new Text[MOST_TEXTS];
        final int[] counting = {-1, -1, -1};
        int z = 1;
        // Rows that rank and fillSigns write anew for the call that reads them.
        private final int[] shown = new int[MOST_THINGS];
        private final int[] signs = new int[MOST_WORDS];

        void become(Room other) {
            things = other.things;
            System.arraycopy(other.worth, 0, worth, 0, MOST_THINGS);
            System.arraycopy(other.buyers, 0, buyers, 0, MOST_THINGS);
            names = other.names;
            System.arraycopy(other.born, 0, born, 0, MOST_NAMES);
            words.become(other.words);
            texts = other.texts;
            for (int i = 0; i < MOST_TEXTS; i++) {
                laws[i] = other.laws[i];
            }
            System.arraycopy(other.counting, 0, counting, 0, counting.length);
            z = other.z;
        }

        /** The number of the new one, or FULL, as addName and addText give it too. */
        int addThing(int w) {
            int number = things;
            if (number >= MOST_THINGS) {
                return FULL;
            }
            worth[number] = w;
            buyers[number] = 0;
            things++;
            return number;
        }

        int addName(int hour) {
            int number = names;
            if (number >= MOST_NAMES) {
                return FULL;
            }
            born[number] = hour;
            names++;
            return number;
        }

        int addText(Text law) {
            int number = texts;
            if (number >= MOST_TEXTS) {
                return FULL;
            }
            laws[number] = law;
            counting[law.key] = number;
            texts++;
            return number;
        }

        private Text lawOf(int key) {
            int number = counting[key];
            return number < 0 ? null : laws[number];
        }

        private static int held(int v) {
            return Math.max(0, Math.min(9, v));
        }

        int weightOf(int word) {
            Text law = lawOf(WEIGH);
            int hour = words.hour[word];
            int asWord = law == null ? 2 : held(law.gives(words.stars[word], hour, born[words.by[word]], 0));
            return Kinds.weight(words.kind[word], asWord, hour);
        }

        int signOf(int word) {
            Text law = lawOf(SIGN);
            if (law == null) {
                return 0;
            }
            int name = words.by[word];
            return held(law.gives(words.stars[word], words.hour[word], born[name], words.countBy(name)));
        }

        // ---- means

        /** By all WEIGHTS: those times 100 STARS (WEIGHED), or times what is said (GOOD). */
        int weighedOf(int thing, boolean byStars) {
            int weights = 0;
            int all = 0;
            for (int i = 0; i < words.size; i++) {
                if (words.of[i] == thing) {
                    int weight = weightOf(i);
                    weights += weight;
                    all += weight * (byStars ? 100 * words.stars[i] : words.saysOf(i));
                }
            }
            return weights == 0 ? NONE : all / weights;
        }

        int spanOf(int thing, boolean high) {
            int many = words.countOf(thing);
            int by = Math.max(many, buyers[thing]);
            if (by == 0) {
                return NONE;
            }
            int all = high ? 100 * (by - many) : 0;
            for (int i = 0; i < words.size; i++) {
                if (words.of[i] == thing) {
                    all += words.saysOf(i);
                }
            }
            return all / by;
        }

        // ---- the shelf

        /** Works out what show gives for each THING; placeOf and atPlace go by that. */
        void rank() {
            Text law = lawOf(SHOW);
            for (int i = 0; i < things; i++) {
                int mean = words.meanOrZero(i);
                shown[i] = law == null ? mean
                    : law.gives(mean, Math.max(0, weighedOf(i, true)), words.countOf(i), 0);
            }
        }

        int placeOf(int thing) {
            int ahead = 0;
            for (int i = 0; i < things; i++) {
                if (shown[i] > shown[thing] || shown[i] == shown[thing] && i < thing) {
                    ahead++;
                }
            }
            return ahead;
        }

        int atPlace(int place) {
            for (int i = 0; i < things; i++) {
                if (placeOf(i) == place) {
                    return i;
                }
            }
            return NONE;
        }

        // ---- signs

        void fillSigns() {
            for (int i = 0; i < words.size; i++) {
                signs[i] = signOf(i);
            }
        }

        /** How many of the TAKEN OFF are TRUE, or are not. */
        int takenOff(int v, boolean areTrue) {
            int found = 0;
            for (int i = 0; i < words.size; i++) {
                if (signs[i] >= v && Kinds.isTrue(words.kind[i]) == areTrue) {
                    found++;
                }
            }
            return found;
        }

        int gainOf(int v) {
            return takenOff(v, false) - takenOff(v, true);
        }

        int bestBound() {
            int best = LAST_BOUND;
            for (int v = LAST_BOUND - 1; v >= 0; v--) {
                if (gainOf(v) > gainOf(best)) {
                    best = v;
                }
            }
            return best;
        }

        int takeOff(int v) {
            int were = words.size;
            words.keepBelow(v, signs);
            return were - words.size;
        }

        // ---- buyers

        private int draw() {
            z = z * 1103515245 + 12345;
            return z >>> 8;
        }

        /** Only called where there are THINGS: 10 times the one that is bought, and the STARS (0: none are written). */
        int buyerComes(int hour) {
            if (things == 0) {
                return 0;
            }
            int thing;
            if (draw() % 3 == 0) {
                thing = draw() % things;
            } else {
                rank();
                thing = Math.max(0, atPlace(0));
            }
            buyers[thing] = Math.min(MOST_BUYERS, buyers[thing] + 1);
            int mean = words.meanOf(thing);
            int off = mean == NONE ? 50 : Math.abs(worth[thing] - mean / 5);
            boolean writes = draw() % 100 < off;
            if (!writes || names == 0 || words.room() == 0) {
                return 10 * thing;
            }
            int stars = Math.min(MOST_STARS, worth[thing] / 20 + 1);
            words.write(Kinds.BOUGHT, thing, draw() % names, hour, stars);
            return 10 * thing + stars;
        }
    }

    /** The greatest set of NAMES any two of which are ALIKE often enough. */
    private static final class Groups {
        private final int[] near = new int[MOST_NAMES];

        int greatest(Room room, int k, int w) {
            fillNear(room, k, w);
            int best = 0;
            for (int set = 1; set < 1 << room.names; set++) {
                if (Integer.bitCount(set) > Integer.bitCount(best) && isGroup(set, room.names)) {
                    best = set;
                }
            }
            return best;
        }

        /** To each NAME, as bits, itself and those it may stand in a group with. */
        private void fillNear(Room room, int k, int w) {
            for (int i = 0; i < room.names; i++) {
                near[i] = 1 << i;
                for (int j = 0; j < room.names; j++) {
                    if (j != i && room.words.timesAlike(i, j, w) >= k) {
                        near[i] |= 1 << j;
                    }
                }
            }
        }

        private boolean isGroup(int set, int names) {
            for (int i = 0; i < names; i++) {
                if ((set >> i & 1) == 1 && (set & ~near[i]) != 0) {
                    return false;
                }
            }
            return true;
        }
    }

    /** The bytes from which TEXTS are read. */
    private static final class Tape {
        final byte[] bytes = new byte[MOST_BYTES];
        int size = 0;

        /** Only called where there is room. */
        void take(int four) {
            for (int shift = 24; shift >= 0 && size < MOST_BYTES; shift -= 8) {
                bytes[size] = (byte) (four >> shift);
                size++;
            }
        }
    }

    /** A law: its signs stand behind what they work on, so that it is worked out in one go. */
    private static final class Text {
        /** In code: below NAMES a number, below SIGNS a name's place in its key's row, else a sign's byte. */
        static final int NAMES = 10000, SIGNS = 20000;

        final int key;
        final int leaves;
        private final int[] code;
        private final int[] stack;

        Text(int newKey, int newLeaves, int[] newCode) {
            key = newKey;
            leaves = newLeaves;
            code = newCode;
            stack = new int[Math.max(1, newLeaves)];
        }

        static String wordOf(int key) {
            return key == WEIGH ? "weigh" : key == SIGN ? "sign" : "show";
        }

        /** The names that a key has, in the order in which gives takes them. */
        static String namesOf(int key) {
            return key == WEIGH ? "shb" : key == SIGN ? "shbc" : "mwc";
        }

        int gives(int first, int second, int third, int fourth) {
            int top = 0;
            for (int i = 0; i < code.length; i++) {
                int what = code[i];
                if (what < SIGNS && top < stack.length) {
                    int name = what - NAMES;
                    stack[top] = name < 0 ? what : name == 0 ? first : name == 1 ? second : name == 2 ? third : fourth;
                    top++;
                } else if (what == SIGNS + '!' && top >= 1) {
                    stack[top - 1] = stack[top - 1] == 0 ? 1 : 0;
                } else if (what > SIGNS && top >= 2) {
                    top--;
                    stack[top - 1] = worked(what - SIGNS, stack[top - 1], stack[top]);
                }
            }
            return stack[0];
        }

        private static int worked(int sign, int left, int right) {
            switch (sign) {
                case '|':
                    return left != 0 || right != 0 ? 1 : 0;
                case '&':
                    return left != 0 && right != 0 ? 1 : 0;
                case '<':
                    return left < right ? 1 : 0;
                case '=':
                    return left == right ? 1 : 0;
                case '>':
                    return left > right ? 1 : 0;
                case '+':
                    return left + right;
                case '-':
                    return left - right;
                case '*':
                    return left * right;
                default:
                    return right == 0 ? 0 : left / right;
            }
        }
    }

    /** Reads a TEXT from the tape, or finds its FAULT. */
    private static final class Reader {
        private static final int END = 0, MARK = 1, LETTERS = 2, DIGITS = 3, WRONG = 4;
        private static final int OR = 0, AND = 1, TEST = 2, SUM = 3, TERM = 4, PIECE = 5;
        private static final int MOST_OPEN = 8;

        private final Tape tape;
        private final int[] code = new int[MOST_BYTES];
        private int coded = 0;
        private int leaves = 0;
        private int key = 0;
        int fault = -1;
        // The word or sign that is next: what it is, its first byte, and the place behind it.
        private int next = END;
        private int start = 0;
        private int end = 0;

        Reader(Tape newTape) {
            tape = newTape;
        }

        /** null: there is a FAULT. */
        Text read() {
            coded = 0;
            leaves = 0;
            fault = -1;
            next = END;
            end = 0;
            step();
            key = keyword();
            if (key < 0) {
                fault = start;
                return null;
            }
            step();
            level(OR, 0, 0);
            if (fault < 0 && next != END) {
                fault = start;
            }
            return fault < 0 ? new Text(key, leaves, Arrays.copyOf(code, coded)) : null;
        }

        private void step() {
            int from = end;
            boolean behindWord = next == LETTERS || next == DIGITS;
            start = from;
            while (start < tape.size && tape.bytes[start] == ' ') {
                start++;
            }
            end = start;
            next = sortAt(start);
            if (next == END) {
                return;
            }
            end++;
            while (next != MARK && end < tape.size && sortAt(end) == next) {
                end++;
            }
            if (next != MARK && behindWord && start == from) {
                next = WRONG;
            }
        }

        private int sortAt(int place) {
            if (place < 0 || place >= tape.size) {
                return END;
            }
            int b = tape.bytes[place];
            return b >= 'a' && b <= 'z' ? LETTERS : b >= '0' && b <= '9' ? DIGITS : MARK;
        }

        private int keyword() {
            for (int i = WEIGH; i <= SHOW; i++) {
                if (next == LETTERS && isNext(Text.wordOf(i))) {
                    return i;
                }
            }
            return -1;
        }

        private boolean isNext(String word) {
            if (end - start != word.length()) {
                return false;
            }
            for (int i = 0; i < word.length(); i++) {
                if (tape.bytes[start + i] != word.charAt(i)) {
                    return false;
                }
            }
            return true;
        }

        /** One level of E, the loosest being OR. */
        private void level(int level, int opens, int nots) {
            if (level >= PIECE) {
                piece(opens, nots);
                return;
            }
            level(level + 1, opens, nots);
            for (int round = 0; round < MOST_BYTES && fault < 0 && levelOfNext() == level; round++) {
                int sign = tape.bytes[start];
                step();
                level(level + 1, opens, nots);
                put(Text.SIGNS + sign);
                if (level == TEST) {
                    return;
                }
            }
        }

        private int levelOfNext() {
            if (next != MARK) {
                return -1;
            }
            switch (tape.bytes[start]) {
                case '|':
                    return OR;
                case '&':
                    return AND;
                case '<':
                case '=':
                case '>':
                    return TEST;
                case '+':
                case '-':
                    return SUM;
                case '*':
                case '/':
                    return TERM;
                default:
                    return -1;
            }
        }

        private void piece(int opens, int nots) {
            if (next == DIGITS && end - start <= 4) {
                leaf(number());
            } else if (next == LETTERS && end - start == 1 && nameOfNext() >= 0) {
                leaf(Text.NAMES + nameOfNext());
            } else if (isMark('!') && nots < MOST_OPEN) {
                step();
                piece(opens, nots + 1);
                put(Text.SIGNS + '!');
            } else if (isMark('(') && opens < MOST_OPEN) {
                step();
                level(OR, opens + 1, nots);
                close();
            } else {
                fault = start;
            }
        }

        private void close() {
            if (fault >= 0) {
                return;
            }
            if (isMark(')')) {
                step();
            } else {
                fault = start;
            }
        }

        private boolean isMark(char sign) {
            return next == MARK && tape.bytes[start] == sign;
        }

        private int number() {
            int v = 0;
            for (int i = start; i < end; i++) {
                v = 10 * v + tape.bytes[i] - '0';
            }
            return v;
        }

        private int nameOfNext() {
            return Text.namesOf(key).indexOf((char) tape.bytes[start]);
        }

        private void leaf(int what) {
            put(what);
            leaves++;
            step();
        }

        private void put(int what) {
            if (coded < code.length) {
                code[coded] = what;
                coded++;
            }
        }
    }

    /** A row of numbers; NO NUMBER is held as NONE, which no place can hold otherwise. */
    private static final class Sheet {
        static final int MISSING = -1, SHORTS = 0, FLOATS = 1;

        int sort = MISSING;
        int size = 0;
        final int[] places = new int[MOST_PLACES];

        boolean isMissing() {
            return sort == MISSING;
        }

        void become(int newSort, int newSize) {
            sort = newSort;
            size = newSize;
            Arrays.fill(places, 0);
        }

        void becomeLike(Sheet other) {
            sort = other.sort;
            size = other.size;
            System.arraycopy(other.places, 0, places, 0, MOST_PLACES);
        }

        boolean has(int place) {
            return within(place, 0, size - 1);
        }

        /** many is not below 0. */
        boolean hasRun(int place, int many) {
            return within(place, 0, size) && many <= size - place;
        }
    }

    /** What a SLOT holds. What a WORD SAYS hangs on its KIND and STARS alone, so it can be kept as it is. */
    private static final class Slot {
        int holds = HOLDS_NOTHING;
        int kind = 0;
        int says = 0;
        int number = 0;
        Sheet sheet = null;

        void takeSheet(Sheet other) {
            if (sheet == null) {
                sheet = new Sheet();
            }
            sheet.becomeLike(other);
        }
    }
}
