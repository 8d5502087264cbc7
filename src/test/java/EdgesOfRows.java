import java.util.Arrays;

/** Promises 39 to 43, and part 5 of the terms as far as it tells of THE IMAGE. */
final class EdgesOfRows extends Hand {
    static void all() {
        tell();
        check();
        checkRow();
        checkLongest();
        checkByImage();
        checkByAllOfIt();
        checkWaits();
        keep();
        back();
        backIsAll();
        backOverOthers();
        keptApart();
        count();
    }

    // ---- 39

    private static void tell() {
        edge(39, "One more number waits: how many. FULL: 60 wait.");
        FiveStars x = new FiveStars();
        int[] any = {0, -1, MAX, MIN, NONE, BAD};
        for (int i = 1; i <= 60; i++) {
            due("tell", x.tell(any[i % 6]), i);
        }
        due("the 61st", x.tell(0), FULL);
        due("the 62nd", x.tell(MIN), FULL);
        due("count(5)", x.count(5), 60);
        x.check(1, 0);
        due("the first again", x.tell(0), 1);
    }

    // ---- 40

    /** THE IMAGE: one THING of w 50, one NAME, no WORDS, and a seed from which the draws' rests are as told. */
    private static FiveStars kept(int[] by, int... rests) {
        FiveStars x = made(1, 1);
        x.seed(seedFor(by, rests));
        x.keep();
        return x;
    }

    private static void dueCheck(FiveStars x, int n, int hour, int want, int... row) {
        for (int v : row) {
            x.tell(v);
        }
        due("check(" + n + ", " + hour + ") of " + Arrays.toString(row), x.check(n, hour), want);
        due("none wait then", x.count(5), 0);
    }

    private static void check() {
        edge(40, "BAD; NO: there is no IMAGE, or no THINGS in it.");
        FiveStars x = kept(new int[] {3, 100}, 1, 60);
        range("check(n, 0)", 1, 1, 30, 1, v -> x.check(v, 0));
        range("check(1, hour)", 0, 1, 999, 1, v -> x.check(1, v));
        FiveStars none = made(1, 1);
        due("no IMAGE", none.check(1, 0), NO);
        due("no IMAGE", none.check(30, 999), NO);
        due("BAD stands ahead of NO", none.check(0, 0), BAD);
        due("BAD stands ahead of NO", none.check(31, 0), BAD);
        due("BAD stands ahead of NO", none.check(1, 1000), BAD);
        FiveStars empty = new FiveStars();
        empty.name(0);
        empty.keep();
        empty.thing(50);
        due("no THINGS in it", empty.check(1, 0), NO);
        due("BAD stands ahead of NO", empty.check(1, -1), BAD);
        empty.keep();
        due("THINGS in it", empty.check(1, 0), 1);
        empty.clean(0);
        due("none wait", empty.check(1, 0), 1);
    }

    private static void checkRow() {
        edge(40, "two by two: 0; else 1 and how many stand right ahead of the first that is not (or is missing,"
            + " or one too many)");
        dueCheck(kept(new int[] {3, 100}, 1, 49), 1, 0, 0, 0, 3);
        dueCheck(kept(new int[] {3, 100}, 1, 50), 1, 0, 0, 0, 0);
        // The first writes 3 STARS; MEAN / 5 is 60 then, OFF is 10, and the second does not write.
        FiveStars x = kept(new int[] {3, 100, 1, 3, 100}, 1, 0, -1, 1, 10);
        dueCheck(x, 2, 0, 0, 0, 3, 0, 0);
        dueCheck(x, 2, 0, 1);
        dueCheck(x, 2, 0, 2, 0);
        dueCheck(x, 2, 0, 3, 0, 3);
        dueCheck(x, 2, 0, 4, 0, 3, 0);
        dueCheck(x, 2, 0, 5, 0, 3, 0, 0, 0);
        dueCheck(x, 2, 0, 5, 0, 3, 0, 0, 0, 0);
        dueCheck(x, 2, 0, 1, 1, 3, 0, 0);
        dueCheck(x, 2, 0, 1, -1);
        dueCheck(x, 2, 0, 2, 0, 2, 0, 0);
        dueCheck(x, 2, 0, 2, 0, 4, 0, 0, 0, 0, 0);
        dueCheck(x, 2, 0, 3, 0, 3, 1, 0);
        dueCheck(x, 2, 0, 3, 0, 3, NONE, 0);
        dueCheck(x, 2, 0, 4, 0, 3, 0, 3);
        dueCheck(x, 1, 0, 0, 0, 3);
        dueCheck(x, 1, 0, 3, 0, 3, 0);
        dueCheck(x, 3, 0, 5, 0, 3, 0, 0);
    }

    private static void checkLongest() {
        edge(40, "are THE BUYERS TOLD of an HOUR, n (1 .. 30)");
        FiveStars x = made(1, 0);
        x.keep();
        int[] row = new int[60];
        dueCheck(x, 30, 999, 0, row);
        dueCheck(x, 30, 0, 60, Arrays.copyOf(row, 59));
        dueCheck(x, 29, 0, 59, row);
        row[59] = 1;
        dueCheck(x, 30, 0, 60, row);
        row[0] = 1;
        dueCheck(x, 30, 0, 1, row);
        // Thirty of whom one alone has room to write.
        FiveStars last = spoken(1, 1, 23);
        last.set(0, 0, 0);
        last.seed(seedFor(new int[] {3, 100}, 1, 0));
        last.keep();
        int[] one = new int[60];
        one[1] = 1;
        dueCheck(last, 30, 0, 0, one);
    }

    private static void checkByImage() {
        edge(40, "THE BUYERS TOLD of an HOUR: of n BUYERS who come in that HOUR, one behind the other, by THE IMAGE:"
            + " the THING, and the STARS (0: nothing is written)");
        // What THE IMAGE tells ahead of time is what happens behind back().
        for (int seed : new int[] {1, 12345, -7, MIN, MAX}) {
            FiveStars x = new FiveStars();
            for (int i = 0; i < 6; i++) {
                x.thing(20 * i);
            }
            for (int i = 0; i < 12; i++) {
                x.name(i);
            }
            law(x, "weigh h/100");
            law(x, "show w-c");
            x.seed(seed);
            x.keep();
            int[] row = comeOneByOne(x, 20, 999);
            x.seed(5);
            x.set(0, 0, 99);
            x.thing(0);
            dueCheck(x, 20, 999, 0, row);
            due("z is as it was", x.count(7), 5);
            due("w is as it was", x.thingTold(0, 0), 99);
            x.back();
            due("THE IMAGE is as it was", x.count(7), seed);
            due("no WORDS came to it", x.count(2), 0);
            due("no BUYERS came to it", x.thingTold(0, 1), 0);
            x.seed(5);
            dueCheck(x, 20, 999, 0, row);
        }
    }

    private static void checkByAllOfIt() {
        edge(40, "by THE IMAGE: the THING, and the STARS");
        // THING 2 is THE SHELF's first by BORN of NAME 1, by TEXT 0 and TEXT 1, and by what its WORD is.
        FiveStars x = new FiveStars();
        law(x, "show w");
        law(x, "weigh b/100+h/100");
        x.thing(0);
        x.thing(0);
        x.thing(0);
        x.name(0);
        x.name(999);
        x.word(0, 0, 15);
        x.word(5, 101, 15);
        x.word(0, 201, 12);
        x.seed(seedFor(new int[] {3, 100, 3, 100}, 1, 99, 2, 99));
        x.keep();
        dueCheck(x, 2, 0, 0, 2, 0, 2, 0);
        x.clean(0);
        law(x, "show 0-w");
        dueCheck(x, 2, 0, 0, 2, 0, 2, 0);
        // With a BOUGHT one of 5 STARS in HOUR 0 (WEIGHT 1) THING 0 has 300, in HOUR 999 (WEIGHT 10) 463; THING 1 has 400.
        FiveStars hours = new FiveStars();
        law(hours, "show w");
        law(hours, "weigh h/100");
        hours.thing(100);
        hours.thing(100);
        hours.name(0);
        hours.word(0, 0, 1001);
        hours.word(0, 100, 1004);
        hours.seed(seedFor(new int[] {3, 2, 100, 1, 3, 100}, 0, 0, 0, -1, 1, 99));
        hours.keep();
        dueCheck(hours, 2, 0, 0, 0, 5, 1, 0);
        dueCheck(hours, 2, 999, 0, 0, 5, 0, 0);
    }

    private static void checkWaits() {
        edge(40, "The numbers that wait (none do then, whatever is answered)");
        FiveStars none = made(1, 1);
        dueCheck(none, 1, 0, NO, 0, 0);
        dueCheck(none, 0, 0, BAD, 0, 0);
        FiveStars x = kept(new int[] {3, 100}, 1, 60);
        dueCheck(x, 31, 0, BAD, 0, 0);
        dueCheck(x, 1, 1000, BAD, 0, 0);
        dueCheck(x, 1, 0, 0, 0, 0);
        dueCheck(x, 1, 0, 1, 9, 9);
        due("the next one is the first", x.tell(0), 1);
    }

    // ---- 41, 42

    private static void keep() {
        edge(41, "AN IMAGE is kept: how many WORDS.");
        due("none", new FiveStars().keep(), 0);
        due("one", spoken(1, 1, 1).keep(), 1);
        due("24", spoken(1, 1, 24).keep(), 24);
        FiveStars x = spoken(1, 1, 24);
        x.keep();
        x.clean(0);
        due("another one", x.keep(), 0);
        due("it is the one that is kept", x.back(), 0);
    }

    private static void back() {
        edge(42, "All is as THE IMAGE: how many WORDS. NO: there is none.");
        due("there is none", new FiveStars().back(), NO);
        FiveStars none = spoken(1, 1, 3);
        due("there is none", none.back(), NO);
        due("all is as it was", none.count(2), 3);
        FiveStars empty = new FiveStars();
        empty.keep();
        empty.thing(5);
        empty.name(5);
        empty.word(0, 0, 15);
        law(empty, "sign 3");
        empty.seed(7);
        due("back to nothing", empty.back(), 0);
        int[] counts = {0, 0, 0, 0, 0, 0, 0, 1};
        for (int what = 0; what < 8; what++) {
            due("count(" + what + ")", empty.count(what), counts[what]);
        }
        due("no THING", empty.thingTold(0, 0), BAD);
        due("no TEXT", empty.textTold(0, 0), BAD);
        due("why(1)", empty.why(1), NONE);
        due("THINGS are numbered from 0", empty.thing(9), 0);
        due("BUYERS are 0", empty.thingTold(0, 1), 0);
    }

    private static FiveStars full() {
        FiveStars x = new FiveStars();
        for (int i = 0; i < 6; i++) {
            x.thing(i);
            x.set(i, 1, 100 + i);
        }
        for (int i = 0; i < 12; i++) {
            x.name(100 + i);
        }
        for (int i = 0; i < 24; i++) {
            x.word(i % 6, 100 * (i % 6) + i % 12, 10 * i + 1 + i % 5);
        }
        for (int i = 0; i < 14; i++) {
            law(x, i % 2 == 0 ? "weigh 3" : "sign h/3");
        }
        x.seed(-5);
        return x;
    }

    private static void backIsAll() {
        edge(42, "all can become as it is (again and again)");
        FiveStars x = full();
        due("keep()", x.keep(), 24);
        for (int again = 0; again < 2; again++) {
            x.clean(0);
            x.set(5, 0, 77);
            x.set(5, 1, 77);
            x.buy(3, 5);
            due("back()", x.back(), 24);
            dueFull(x);
        }
        x.star(0, 5);
        x.turns(0, 5);
        x.drop(1);
        due("back()", x.back(), 24);
        dueFull(x);
    }

    private static void backOverOthers() {
        edge(42, "All is as THE IMAGE");
        FiveStars x = made(6, 12);
        for (int i = 0; i < 24; i++) {
            x.word(i % 6, 100 * (i % 6) + i % 12, 10 * i + 1 + i % 5);
        }
        x.keep();
        x.clean(0);
        for (int i = 0; i < 24; i++) {
            x.word(5 - i % 6, 100 * (5 - i % 6) + 11 - i % 12, 10 * (999 - i) + 5 - i % 5);
        }
        x.back();
        for (int i = 0; i < 24; i++) {
            int[] told = {i % 6, i % 6, i % 12, i, 1 + i % 5};
            for (int what = 0; what < 5; what++) {
                due("told(" + i + ", " + what + ")", x.told(i, what), told[what]);
            }
        }
        // What stands behind the last of THE IMAGE is new then, not what was there.
        FiveStars fewer = made(1, 1);
        fewer.keep();
        fewer.thing(90);
        fewer.set(1, 1, 77);
        fewer.name(900);
        law(fewer, "sign 5");
        fewer.back();
        due("THING 1", fewer.thing(10), 1);
        due("w", fewer.thingTold(1, 0), 10);
        due("BUYERS", fewer.thingTold(1, 1), 0);
        due("NAME 1", fewer.name(20), 1);
        due("BORN", fewer.nameTold(1, 0), 20);
        dueLaw(fewer, "show 1+1", 0);
        due("KEY", fewer.textTold(0, 0), 2);
        due("why(1)", fewer.why(1), NONE);
    }

    private static void dueFull(FiveStars x) {
        int[] counts = {6, 12, 24, 12, 14, 0, 0, -5};
        for (int what = 0; what < 8; what++) {
            due("count(" + what + ")", x.count(what), counts[what]);
        }
        for (int i = 0; i < 24; i += 23) {
            int[] told = {i % 6, i % 6, i % 12, i, 1 + i % 5, i == 0 ? 3 : 0, 20, Math.min(9, i / 3), 1 - i % 2};
            for (int what = 0; what < 9; what++) {
                due("told(" + i + ", " + what + ")", x.told(i, what), told[what]);
            }
        }
        due("BORN", x.nameTold(11, 0), 111);
        due("w", x.thingTold(5, 0), 5);
        due("BUYERS", x.thingTold(5, 1), 105);
        due("why(0)", x.why(0), 12);
        due("why(1)", x.why(1), 13);
        due("why(2)", x.why(2), NONE);
        due("full of WORDS", x.word(0, 0, 15), FULL);
        due("full of THINGS", x.thing(5), FULL);
        due("full of NAMES", x.name(5), FULL);
        dueLaw(x, "show 1", FULL);
    }

    private static void keptApart() {
        edge(42, "AN IMAGE keeps all but SHEETS, SLOTS, numbers that wait, THE TAPE");
        FiveStars x = spoken(1, 1, 2);
        x.sheet(0, 0, 2);
        x.lay(0, 3, 7);
        x.tell(1);
        x.feed(0, 0, 0);
        x.keep();
        x.mark(0, 1, 9);
        x.sheet(1, 1, 3);
        x.lay(0, 3, 8);
        x.lay(1, 1, 1);
        x.tell(2);
        x.feed(0, 0, 0);
        x.clean(0);
        due("back()", x.back(), 2);
        due("a number in a SLOT", x.rest(0, 100), 8);
        due("a WORD in a SLOT", x.ask(1, 0), 100);
        due("numbers that wait", x.count(5), 2);
        due("THE TAPE", x.count(6), 24);
        dueRow(x, 0, 0, 9, INDEX);
        dueRow(x, 1, 0, 0, 0, INDEX);
        x.keep();
        x.sheet(0, -1, 0);
        x.lay(0, 0, 0);
        x.check(0, 0);
        x.trim(0);
        x.back();
        due("a SHEET stays MISSING", x.reads(0), NOTHING);
        due("a SLOT holds nothing", x.rest(0, 1), NOTHING);
        due("none wait", x.count(5), 0);
        due("no bytes", x.count(6), 0);
    }

    // ---- 43

    private static void count() {
        edge(43, "How many: 0 THINGS, 1 NAMES, 2 WORDS, 3 TRUE ones, 4 TEXTS, 5 numbers that wait, 6 bytes of THE TAPE,"
            + " 7 z. BAD.");
        range("count of none", 0, 0, 7, 1, v -> new FiveStars().count(v));
        FiveStars x = full();
        for (int i = 0; i < 60; i++) {
            x.tell(i);
        }
        for (int i = 0; i < 8; i++) {
            x.feed(i, i, i);
        }
        int[] most = {6, 12, 24, 12, 14, 60, 96, -5};
        for (int what = 0; what < 8; what++) {
            due("count(" + what + ")", x.count(what), most[what]);
        }
        range("count", 0, 6, 7, -5, x::count);
        FiveStars odd = spoken(1, 1, 24);
        due("24 TRUE ones", odd.count(3), 24);
        for (int i = 0; i < 24; i++) {
            odd.turns(i, i % 3 == 0 ? 2 : i % 3 == 1 ? 4 : 5);
        }
        due("no TRUE ones", odd.count(3), 0);
        odd.turns(23, 3);
        due("one", odd.count(3), 1);
    }
}
