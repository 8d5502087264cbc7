/** Promises 30 to 38, and part 5 of the terms as far as it tells of SHEETS and SLOTS. */
final class EdgesOfSheets extends Hand {
    static void all() {
        sheet();
        findings();
        sheetAnew();
        markPlaces();
        markShorts();
        markFloats();
        pour();
        pourMoments();
        pourRoom();
        reads();
        copy();
        copyEnds();
        copyWithin();
        lay();
        layForGood();
        ask();
        item();
        rest();
    }

    private static FiveStars withSheet(int sort, int n) {
        FiveStars x = made(2, 2);
        x.sheet(0, sort, n);
        return x;
    }

    // ---- 30

    private static void sheet() {
        edge(30, "SHEETS 0 .. 3 are rows of shorts (sort 0) or floats (1; whole numbers), with 0 to 24 places");
        range("sheet(sheet, 0, 5)", 0, 5, 3, 5, v -> new FiveStars().sheet(v, 0, 5));
        for (int sort = 0; sort <= 1; sort++) {
            due("0 places", new FiveStars().sheet(0, sort, 0), 0);
            due("24 places", new FiveStars().sheet(0, sort, 24), 24);
            FiveStars x = withSheet(sort, 24);
            due("the last place", x.mark(0, 23, 5), 1);
            due("behind it", x.mark(0, 24, 5), INDEX);
        }

        edge(30, "BAD: sheet, sort, n above 24; SIZE.");
        for (int sort = 0; sort <= 1; sort++) {
            due("25 places", new FiveStars().sheet(0, sort, 25), BAD);
            due("MAX places", new FiveStars().sheet(0, sort, MAX), BAD);
            due("-1 places", new FiveStars().sheet(0, sort, -1), SIZE);
            due("MIN places", new FiveStars().sheet(0, sort, MIN), SIZE);
        }
        range("sheet(0, sort, 5)", -1, 0, 1, 5, v -> new FiveStars().sheet(0, v, 5));
        due("BAD stands ahead of SIZE: sheet", new FiveStars().sheet(4, 0, -1), BAD);
        due("BAD stands ahead of SIZE: sheet", new FiveStars().sheet(-1, 1, -1), BAD);
        due("BAD stands ahead of SIZE: sort", new FiveStars().sheet(0, 2, -1), BAD);
        due("BAD stands ahead of SIZE: sort", new FiveStars().sheet(0, -2, -1), BAD);
        due("sheet, though MISSING", new FiveStars().sheet(4, -1, 0), BAD);

        edge(30, "(sort -1: MISSING, n any): n (0)");
        for (int n : new int[] {0, 24, 25, -1, MIN, MAX}) {
            FiveStars x = withSheet(0, 3);
            due("sheet(0, -1, " + n + ")", x.sheet(0, -1, n), 0);
            due("it is MISSING", x.mark(0, 0, 1), NOTHING);
        }
    }

    private static void findings() {
        edge(30, "SIZE: a number of places is below 0");
        FiveStars x = toLay();
        due("SIZE leaves it MISSING", x.sheet(1, 0, -1), SIZE);
        due("SIZE leaves it MISSING", x.reads(1), NOTHING);
        due("SIZE leaves it as it is", x.sheet(3, 0, -1), SIZE);
        due("SIZE leaves it as it is", x.mark(3, 23, NONE), 1);

        edge(31, "FINDINGS: NOTHING: a SHEET is MISSING, a SLOT holds nothing");
        x.sheet(2, 0, 1);
        x.sheet(2, -1, 1);
        for (int sheet = 1; sheet <= 2; sheet++) {
            due("mark", x.mark(sheet, 0, 1), NOTHING);
            due("pour", x.pour(sheet, 0), NOTHING);
            due("reads", x.reads(sheet), NOTHING);
            due("copy from it", x.copy(sheet, 0, 0, 0, 0), NOTHING);
            due("copy to it", x.copy(0, 0, sheet, 0, 0), NOTHING);
            due("copy within it", x.copy(sheet, 0, sheet, 0, 0), NOTHING);
            due("lay", x.lay(0, 2, sheet), NOTHING);
        }
        x.lay(4, 2, 0);
        x.lay(4, 0, 0);
        for (int slot = 0; slot <= 4; slot += 4) {
            due("ask", x.ask(slot, 0), NOTHING);
            due("item", x.item(slot, 0), NOTHING);
            due("rest", x.rest(slot, 1), NOTHING);
        }

        edge(31, "A place of floats may be NO NUMBER.");
        for (int place = 0; place < 24; place++) {
            due("NO NUMBER at " + place, x.mark(3, place, NONE), 1);
        }
        x.lay(1, 2, 3);
        for (int place = 0; place < 24; place++) {
            due("item(1, " + place + ")", x.item(1, place), KIND);
        }
    }

    private static void sheetAnew() {
        edge(30, "A SHEET becomes a row of n places of a sort, all 0");
        for (int sort = 0; sort <= 1; sort++) {
            FiveStars x = withSheet(sort, 24);
            for (int i = 0; i < 24; i++) {
                x.mark(0, i, i + 1);
            }
            x.sheet(0, sort, 1);
            dueRow(x, 0, 0);
            x.sheet(0, 1 - sort, 24);
            dueRow(x, 0, new int[24]);
            due("the others are MISSING all the while", x.reads(1), NOTHING);
        }
        FiveStars refused = withSheet(1, 2);
        refused.mark(0, 1, NONE);
        refused.sheet(0, 0, 25);
        refused.sheet(0, 0, -1);
        dueRow(refused, 0, 0, KIND, INDEX);
    }

    // ---- 31

    private static void markPlaces() {
        edge(31, "BAD: sheet; NOTHING; INDEX; KIND: NONE in a row of shorts; BAD: v of floats.");
        for (int sort = 0; sort <= 1; sort++) {
            FiveStars x = withSheet(sort, 5);
            due("the first place", x.mark(0, 0, 1), 1);
            due("the last place", x.mark(0, 4, 1), 1);
            for (int place : new int[] {-1, 5, 24, -5, MIN, MAX}) {
                due("place " + place, x.mark(0, place, 1), INDEX);
            }
            dueRow(x, 0, 1, 0, 0, 0, 1, INDEX);
            due("no places", withSheet(sort, 0).mark(0, 0, 1), INDEX);
        }
        FiveStars x = withSheet(0, 1);
        x.sheet(3, 1, 1);
        for (int sheet : new int[] {-1, 4, MIN, MAX}) {
            due("sheet " + sheet, x.mark(sheet, 9, NONE), BAD);
        }
        due("the last SHEET", x.mark(3, 0, 1), 1);
        due("NOTHING stands ahead of INDEX", x.mark(1, -1, 1), NOTHING);
        due("INDEX stands ahead of KIND", x.mark(0, 1, NONE), INDEX);
        due("INDEX stands ahead of BAD: v", x.mark(3, 1, 100000), INDEX);
        due("NOTHING stands ahead of BAD: v", x.mark(2, 0, 100000), NOTHING);
    }

    private static void markShorts() {
        edge(31, "A place of a SHEET becomes v (of shorts its lowest 16 bits;");
        int[] marks = {32767, 32768, -32768, -32769, 65535, 65536, 65537, MAX, MIN, -1, NONE + 1, NONE - 1, BAD, 100000};
        int[] become = {32767, -32768, -32768, 32767, -1, 0, 1, -1, 0, -1, 13820, 13818, 13823, -31072};
        FiveStars x = withSheet(0, 14);
        for (int i = 0; i < 14; i++) {
            due("mark(0, " + i + ", " + marks[i] + ")", x.mark(0, i, marks[i]), 1);
        }
        dueRow(x, 0, become);

        edge(31, "KIND: NONE in a row of shorts");
        due("NONE", x.mark(0, 0, NONE), KIND);
        dueRow(x, 0, 32767);
    }

    private static void markFloats() {
        edge(31, "of floats v, -99999 .. 99999; NONE: NO NUMBER): 1.");
        FiveStars x = withSheet(1, 3);
        range("mark(0, 0, v)", -99999, 1, 99999, 1, v -> v == NONE ? BAD : x.mark(0, 0, v));
        dueRow(x, 0, 99999);
        x.mark(0, 0, -99999);
        for (int v : new int[] {NONE + 1, NONE - 1, 100000, -100000, 16777217}) {
            due("mark(0, 0, " + v + ")", x.mark(0, 0, v), BAD);
        }
        dueRow(x, 0, -99999, 0, 0);
        due("NO NUMBER", x.mark(0, 1, NONE), 1);
        dueRow(x, 0, -99999, KIND, 0);
        due("BAD leaves it NO NUMBER", x.mark(0, 1, 100000), BAD);
        dueRow(x, 0, -99999, KIND, 0);
        due("a number again", x.mark(0, 1, 0), 1);
        dueRow(x, 0, -99999, 0, 0);
    }

    // ---- 32

    private static void pour() {
        edge(32, "BAD: sheet, thing, name; NOTHING; FULL: they have no room (none comes then).");
        range("pour(sheet, 0)", 0, 0, 3, NOTHING, v -> withSheet(0, 1).pour(v, 0));
        range("pour(0, of) of one THING", 0, 1, 1, 1, v -> poured(1, 2).pour(0, v));
        for (int of : new int[] {0, 1, 11, 100, 101, 111, 400, 411, 500, 511}) {
            FiveStars x = poured(6, 12);
            due("pour(0, " + of + ")", x.pour(0, of), 1);
            due("THING", x.told(0, 1), of / 100);
            due("NAME", x.told(0, 2), of % 100);
        }
        FiveStars six = poured(6, 12);
        for (int of : new int[] {512, 599, 600, 611, 12, 99, -1, -100, -511, MIN, MAX, 2147483600}) {
            due("pour(0, " + of + ")", six.pour(0, of), BAD);
        }
        due("no NAMES", poured(1, 0).pour(0, 0), BAD);
        due("no THINGS", poured(0, 1).pour(0, 0), BAD);
        due("BAD stands ahead of NOTHING", six.pour(3, 600), BAD);
        due("MISSING", six.pour(3, 511), NOTHING);
        FiveStars full = spoken(1, 1, 24);
        full.sheet(0, 0, 1);
        full.mark(0, 0, 11);
        due("BAD stands ahead of FULL", full.pour(0, 1), BAD);
        due("NOTHING stands ahead of FULL", full.pour(1, 0), NOTHING);
        due("FULL", full.pour(0, 0), FULL);
    }

    /** With a SHEET of one place, from which a WORD would come. */
    private static FiveStars poured(int things, int names) {
        FiveStars x = made(things, names);
        x.sheet(0, 0, 1);
        x.mark(0, 0, 11);
        return x;
    }

    private static void pourMoments() {
        edge(32, "WORDS (KIND 0) of a THING by a NAME come from a SHEET, place by place from 0 on (10 times HOUR,"
            + " and STARS), up to the first that is NO NUMBER or no such: how many came.");
        for (int sort = 0; sort <= 1; sort++) {
            for (int at : new int[] {1, 5, 11, 15, 9991, 9995}) {
                FiveStars x = withSheet(sort, 1);
                x.mark(0, 0, at);
                due("pour of " + at, x.pour(0, 101), 1);
                int[] told = {0, 1, 1, at / 10, at % 10};
                for (int what = 0; what < 5; what++) {
                    due("told(0, " + what + ")", x.told(0, what), told[what]);
                }
            }
            for (int at : new int[] {0, 6, 9, 10, 16, 9990, 9996, 9999, 10000, 10001, 10005, 32765, -1, -5, -9, -15, -9995}) {
                FiveStars x = withSheet(sort, 3);
                x.mark(0, 0, 21);
                x.mark(0, 1, at);
                x.mark(0, 2, 31);
                due("up to " + at, x.pour(0, 0), 1);
                x.mark(0, 0, at);
                due("up to " + at + " at once", x.pour(0, 0), 0);
                due("one came", x.count(2), 1);
            }
        }
        FiveStars wrapped = withSheet(0, 1);
        wrapped.mark(0, 0, 65536 + 15);
        due("of shorts the lowest 16 bits", wrapped.pour(0, 0), 1);
        due("HOUR", wrapped.told(0, 3), 1);
        FiveStars none = withSheet(1, 3);
        none.mark(0, 0, 21);
        none.mark(0, 1, NONE);
        none.mark(0, 2, 21);
        due("up to NO NUMBER", none.pour(0, 0), 1);
        none.mark(0, 0, NONE);
        due("up to NO NUMBER at once", none.pour(0, 0), 0);
        due("no places", withSheet(0, 0).pour(0, 0), 0);
        FiveStars beyond = withSheet(1, 1);
        beyond.mark(0, 0, 99995);
        due("HOUR 9999", beyond.pour(0, 0), 0);
    }

    private static void pourRoom() {
        edge(32, "FULL: they have no room (none comes then)");
        FiveStars x = made(1, 1);
        x.sheet(0, 0, 24);
        for (int i = 0; i < 24; i++) {
            x.mark(0, i, 10 * i + 1);
        }
        due("24 have room", x.pour(0, 0), 24);
        for (int i = 0; i < 24; i++) {
            due("HOUR of " + i, x.told(i, 3), i);
        }
        due("none has room", x.pour(0, 0), FULL);
        due("none came", x.count(2), 24);
        x.clean(0);
        x.word(0, 0, 15);
        due("one has none", x.pour(0, 0), FULL);
        due("none came", x.count(2), 1);
        x.mark(0, 23, 0);
        due("23 have room", x.pour(0, 0), 23);
        x.mark(0, 0, 0);
        due("none needs room", x.pour(0, 0), 0);
    }

    // ---- 33

    private static void reads() {
        edge(33, "BAD; NOTHING; NONE: there is none.");
        range("reads", 0, NOTHING, 3, NOTHING, v -> new FiveStars().reads(v));
        due("no places", withSheet(0, 0).reads(0), NONE);
        due("no places", withSheet(1, 0).reads(0), NONE);

        edge(33, "The first place (of numbers alone) at which a SHEET is not MEAN of the THING of that number");
        FiveStars x = made(2, 1);
        x.word(0, 0, 11);
        x.word(0, 100, 15);
        for (int sort = 0; sort <= 1; sort++) {
            x.sheet(0, sort, 2);
            int[][] rows = {{100, 500, NONE}, {99, 500, 0}, {101, 500, 0}, {100, 499, 1}, {100, 501, 1}, {0, 0, 0}};
            for (int[] row : rows) {
                x.mark(0, 0, row[0]);
                x.mark(0, 1, row[1]);
                due("reads of " + row[0] + ", " + row[1], x.reads(0), row[2]);
            }
        }
        x.mark(0, 0, NONE);
        due("NO NUMBER is none of them", x.reads(0), 1);
        x.mark(0, 1, NONE);
        due("NO NUMBER alone", x.reads(0), NONE);

        edge(33, "(0 for NONE; beyond the last THING all that are numbers are not)");
        FiveStars six = made(6, 1);
        six.sheet(0, 0, 6);
        due("six without WORDS", six.reads(0), NONE);
        six.mark(0, 5, -1);
        due("-1 is not 0", six.reads(0), 5);
        six.sheet(0, 0, 7);
        due("beyond the last", six.reads(0), 6);
        six.sheet(0, 1, 24);
        due("beyond the last", six.reads(0), 6);
        for (int i = 6; i < 23; i++) {
            six.mark(0, i, NONE);
        }
        due("the last place", six.reads(0), 23);
        six.mark(0, 23, NONE);
        due("NO NUMBERS beyond the last", six.reads(0), NONE);
        FiveStars none = new FiveStars();
        none.sheet(0, 0, 1);
        due("no THINGS", none.reads(0), 0);
    }

    // ---- 34

    private static FiveStars twoRows(int sort) {
        FiveStars x = new FiveStars();
        x.sheet(0, sort, 4);
        x.sheet(3, sort, 3);
        for (int i = 0; i < 4; i++) {
            x.mark(0, i, i + 1);
        }
        return x;
    }

    private static void copy() {
        edge(34, "BAD; NOTHING; KIND: they are not of one sort; INDEX.");
        FiveStars x = twoRows(0);
        range("copy(from, 0, 0, 0, 1)", 0, 1, 3, 1, v -> x.copy(v, 0, 0, 0, 1));
        range("copy(0, 0, to, 0, 1)", 0, 1, 3, 1, v -> x.copy(0, 0, v, 0, 1));
        due("BAD stands ahead of NOTHING", x.copy(1, 0, 4, 0, 1), BAD);
        due("BAD stands ahead of NOTHING", x.copy(-1, 0, 1, 0, 1), BAD);
        due("from MISSING", x.copy(1, 0, 0, 0, 1), NOTHING);
        due("to MISSING", x.copy(0, 0, 1, 0, 1), NOTHING);
        due("both are MISSING", x.copy(1, 0, 2, 0, 0), NOTHING);
        x.sheet(2, 1, 4);
        due("NOTHING stands ahead of KIND and INDEX", x.copy(2, 9, 1, 9, 9), NOTHING);
        due("shorts to floats", x.copy(0, 0, 2, 0, 1), KIND);
        due("floats to shorts", x.copy(2, 0, 0, 0, 1), KIND);
        due("KIND, though none are to come", x.copy(0, 0, 2, 0, 0), KIND);
        due("KIND stands ahead of INDEX", x.copy(0, 9, 2, 0, 1), KIND);
        due("KIND stands ahead of INDEX", x.copy(0, 0, 2, 0, -1), KIND);
        x.sheet(1, 1, 0);
        due("a row without places", x.copy(1, 0, 2, 0, 1), INDEX);
        due("none of it", x.copy(1, 0, 2, 4, 0), 0);
    }

    private static void copyEnds() {
        edge(34, "INDEX: there is no such place");
        int[][] all = {{0, 0, 0, 0}, {4, 3, 0, 0}, {5, 0, 0, INDEX}, {0, 4, 0, INDEX}, {-1, 0, 0, INDEX}, {0, -1, 0, INDEX},
            {0, 0, 3, 3}, {1, 0, 3, 3}, {2, 0, 3, INDEX}, {0, 0, 4, INDEX}, {0, 1, 3, INDEX}, {0, 1, 2, 2}, {3, 2, 1, 1},
            {4, 2, 1, INDEX}, {3, 3, 1, INDEX}, {0, 0, -1, INDEX}, {4, 3, -1, INDEX}, {2, 2, -2, INDEX}, {0, 0, MIN, INDEX},
            {0, 0, MAX, INDEX}, {1, 1, MAX, INDEX}, {MAX, 0, 1, INDEX}, {0, MAX, 1, INDEX}, {MAX, MAX, MAX, INDEX},
            {MIN, 0, 1, INDEX}, {0, MIN, 1, INDEX}, {MIN, MIN, MIN, INDEX}, {MAX, 0, 0, INDEX}, {0, MAX, 0, INDEX},
            {-1, 0, 1, INDEX}, {0, -1, 1, INDEX}, {-1, 0, 2, INDEX}};
        for (int sort = 0; sort <= 1; sort++) {
            for (int[] a : all) {
                FiveStars x = twoRows(sort);
                due("copy(0, " + a[0] + ", 3, " + a[1] + ", " + a[2] + ")", x.copy(0, a[0], 3, a[1], a[2]), a[3]);
                int[] row = {0, 0, 0, INDEX};
                for (int i = 0; i < a[3]; i++) {
                    row[a[1] + i] = a[0] + i + 1;
                }
                dueRow(x, 3, row);
                dueRow(x, 0, 1, 2, 3, 4, INDEX);
            }
        }
        FiveStars full = new FiveStars();
        full.sheet(0, 1, 24);
        full.sheet(1, 1, 24);
        full.mark(0, 23, 7);
        due("all 24", full.copy(0, 0, 1, 0, 24), 24);
        full.lay(0, 2, 1);
        due("the last", full.item(0, 23), 7);
        due("25", full.copy(0, 0, 1, 0, 25), INDEX);
    }

    private static void copyWithin() {
        edge(34, "So many places of a SHEET come to another one (or the same), as they were: many.");
        int[][] ways = {{0, 1, 3}, {1, 0, 3}, {0, 2, 2}, {2, 0, 2}, {0, 0, 4}, {3, 0, 1}, {0, 3, 1}, {2, 1, 2}, {4, 0, 0}};
        for (int sort = 0; sort <= 1; sort++) {
            for (int[] way : ways) {
                FiveStars x = twoRows(sort);
                due("copy within", x.copy(0, way[0], 0, way[1], way[2]), way[2]);
                int[] row = {1, 2, 3, 4};
                for (int i = 0; i < way[2]; i++) {
                    row[way[1] + i] = way[0] + i + 1;
                }
                dueRow(x, 0, row);
            }
        }
        FiveStars none = twoRows(1);
        none.mark(0, 0, NONE);
        due("NO NUMBER comes too", none.copy(0, 0, 0, 1, 3), 3);
        dueRow(none, 0, KIND, KIND, 2, 3);
        due("a number comes over NO NUMBER", none.copy(0, 2, 0, 0, 2), 2);
        dueRow(none, 0, 2, 3, 2, 3);
    }

    // ---- 35

    private static FiveStars toLay() {
        FiveStars x = spoken(1, 1, 24);
        x.sheet(0, 0, 1);
        x.sheet(3, 1, 24);
        return x;
    }

    private static void lay() {
        edge(35, "A SLOT holds: thing 0 nothing, 1 WORD k, 2 SHEET k, 3 the number k: what it held (0 .. 3).");
        FiveStars x = toLay();
        int was = 0;
        for (int round = 0; round < 2; round++) {
            for (int thing : new int[] {0, 0, 1, 1, 2, 2, 3, 3, 1, 3, 2, 0, 2, 1, 0, 3}) {
                due("lay(4, " + thing + ", 0)", x.lay(4, thing, 0), was);
                was = thing;
            }
        }
        due("another SLOT", x.lay(0, 0, 0), 0);
        for (int before = 0; before < 4; before++) {
            for (int now = 0; now < 4; now++) {
                FiveStars y = toLay();
                y.lay(2, before, 0);
                y.lay(2, now, 0);
                due("a WORD, of " + before + " and then " + now, y.ask(2, 0), now == 0 ? NOTHING : now == 1 ? 100 : KIND);
                due("a SHEET, of " + before + " and then " + now, y.item(2, 0), now == 0 ? NOTHING : now == 2 ? 0 : KIND);
                due("a number, of " + before + " and then " + now, y.rest(2, 1), now == 0 ? NOTHING : now == 3 ? 0 : KIND);
            }
        }

        edge(35, "BAD: slot, thing, k; NOTHING: that SHEET is MISSING.");
        range("lay(slot, 3, 0)", 0, 0, 4, 0, v -> toLay().lay(v, 3, 0));
        range("lay(0, thing, 0)", 0, 0, 3, 0, v -> toLay().lay(0, v, 0));
        range("lay(0, 1, k)", 0, 0, 23, 0, v -> toLay().lay(0, 1, v));
        range("lay(0, 1, k) of one", 0, 0, 0, 0, v -> spoken(1, 1, 1).lay(0, 1, v));
        range("lay(0, 2, k)", 0, 0, 3, 0, v -> toLay().lay(0, 2, v));
        due("no WORDS", made(1, 1).lay(0, 1, 0), BAD);
        due("MISSING", toLay().lay(0, 2, 1), NOTHING);
        due("BAD stands ahead of NOTHING", toLay().lay(5, 2, 1), BAD);
        for (int k : new int[] {0, -1, MIN, MAX, NONE, BAD}) {
            FiveStars any = toLay();
            due("the number " + k, any.lay(0, 3, k), 0);
            due("the number " + k, any.rest(0, MIN), k == MIN ? 0 : k);
            due("nothing, k any", any.lay(0, 0, k), 3);
        }
    }

    private static void layForGood() {
        edge(35, "a WORD (as it is then, for good, but TEXTS, which are as they are now), a SHEET (a row of its own,"
            + " as it was then), or a number");
        FiveStars x = toLay();
        x.lay(0, 1, 23);
        x.star(23, 1);
        x.turns(23, 5);
        due("a WORD as it is then", x.ask(0, 0), 100);
        x.clean(0);
        due("for good", x.ask(0, 0), 100);
        x.mark(3, 23, 9);
        x.lay(1, 2, 3);
        x.lay(2, 2, 3);
        x.mark(3, 23, 8);
        x.sheet(3, 0, 1);
        due("a row of its own", x.item(1, 23), 9);
        x.lay(1, 2, 3);
        due("another row now", x.item(1, 23), INDEX);
        due("the other SLOT's", x.item(2, 23), 9);
        x.sheet(3, -1, 0);
        due("though it is MISSING", x.item(1, 0), 0);
        x.lay(1, 2, 1);
        due("NOTHING leaves what it held", x.item(1, 0), 0);
        x.lay(1, 1, 0);
        due("BAD leaves what it held", x.item(1, 0), 0);
    }

    // ---- 36 .. 38

    private static void ask() {
        edge(36, "What the WORD in a SLOT SAYS, taken for one of a KIND (0 .. 5).");
        int[][] due = {{60, KIND, KIND, KIND, KIND, KIND}, {60, 60, KIND, KIND, KIND, KIND}, {50, KIND, 50, KIND, KIND, KIND},
            {40, 40, KIND, 40, KIND, KIND}, {53, KIND, 53, KIND, 53, KIND}, {40, KIND, KIND, KIND, KIND, 40}};
        for (int kind = 0; kind < 6; kind++) {
            FiveStars x = made(1, 1);
            x.word(kind, 0, 13);
            x.lay(4, 1, 0);
            for (int asked = 0; asked < 6; asked++) {
                due("KIND " + kind + " as " + asked, x.ask(4, asked), due[kind][asked]);
            }
        }

        edge(36, "BAD; NOTHING; KIND: it is no WORD, or not of that KIND, nor of one under it.");
        range("ask(slot, 0)", 0, NOTHING, 4, NOTHING, v -> new FiveStars().ask(v, 0));
        FiveStars x = toLay();
        x.lay(0, 1, 0);
        x.lay(1, 2, 0);
        x.lay(2, 3, 0);
        range("ask(0, kind)", 0, 100, 5, KIND, v -> x.ask(0, v));
        due("a SHEET", x.ask(1, 0), KIND);
        due("a number", x.ask(2, 0), KIND);
        due("BAD stands ahead of NOTHING", x.ask(3, 6), BAD);
        due("BAD stands ahead of NOTHING", x.ask(3, -1), BAD);
        due("BAD stands ahead of KIND", x.ask(1, 6), BAD);
    }

    private static void item() {
        edge(37, "A place of the SHEET in a SLOT. BAD: slot; NOTHING; KIND: it is no SHEET; INDEX; KIND: NO NUMBER.");
        range("item(slot, 0)", 0, NOTHING, 4, NOTHING, v -> new FiveStars().item(v, 0));
        FiveStars x = toLay();
        x.mark(3, 0, -99999);
        x.mark(3, 22, NONE);
        x.mark(3, 23, 99999);
        x.mark(0, 0, -32768);
        x.sheet(1, 0, 0);
        int[] held = {2, 2, 2, 1, 3};
        int[] which = {3, 0, 1, 0, 0};
        for (int slot = 0; slot < 5; slot++) {
            x.lay(slot, held[slot], which[slot]);
        }
        due("the first", x.item(0, 0), -99999);
        due("the last", x.item(0, 23), 99999);
        due("NO NUMBER", x.item(0, 22), KIND);
        due("shorts", x.item(1, 0), -32768);
        for (int place : new int[] {-1, MIN, MAX, 24}) {
            due("place " + place, x.item(0, place), INDEX);
            due("place " + place + " of none", x.item(2, place), INDEX);
            due("KIND stands ahead of INDEX: a WORD", x.item(3, place), KIND);
            due("KIND stands ahead of INDEX: a number", x.item(4, place), KIND);
        }
        due("place 0 of none", x.item(2, 0), INDEX);
        due("place 1 of one", x.item(1, 1), INDEX);
        x.lay(4, 0, 0);
        due("NOTHING stands ahead of INDEX", x.item(4, -1), NOTHING);
    }

    private static void rest() {
        edge(38, "The rest of the number in a SLOT by n. BAD: slot; NOTHING; KIND: it is no number; NO: n is 0.");
        range("rest(slot, 0)", 0, NOTHING, 4, NOTHING, v -> new FiveStars().rest(v, 0));
        int[][] rests = {{17, 5, 2}, {-17, 5, -2}, {17, -5, 2}, {-17, -5, -2}, {17, 1, 0}, {17, -1, 0}, {0, 5, 0}, {4, 5, 4},
            {5, 5, 0}, {MIN, -1, 0}, {MIN, 1, 0}, {MIN, MIN, 0}, {MIN, MAX, -1}, {MAX, MIN, MAX}, {MAX, MAX, 0},
            {MAX, 2, 1}, {MIN, 3, -2}, {17, 0, NO}, {0, 0, NO}, {MIN, 0, NO}};
        for (int[] r : rests) {
            FiveStars x = new FiveStars();
            x.lay(4, 3, r[0]);
            due(r[0] + " by " + r[1], x.rest(4, r[1]), r[2]);
            due("again", x.rest(4, r[1]), r[2]);
        }
        FiveStars x = toLay();
        x.lay(0, 1, 0);
        x.lay(1, 2, 0);
        due("a WORD", x.rest(0, 1), KIND);
        due("a SHEET", x.rest(1, 1), KIND);
        due("KIND stands ahead of NO", x.rest(0, 0), KIND);
        due("KIND stands ahead of NO", x.rest(1, 0), KIND);
        due("NOTHING stands ahead of NO", x.rest(2, 0), NOTHING);
        due("BAD stands ahead of NO", x.rest(5, 0), BAD);
    }
}
