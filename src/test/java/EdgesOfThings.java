/** Promises 1 to 12, and part 1 of the terms: what is too small, too large, empty and full. */
final class EdgesOfThings extends Hand {
    static void all() {
        newObject();
        objectsLast();
        thing();
        thingTold();
        set();
        name();
        nameTold();
        word();
        wordNumbers();
        told();
        weights();
        says();
        as();
        turns();
        star();
        drop();
    }

    // ---- 1

    private static void newObject() {
        edge(1, "As told; no THINGS.");
        FiveStars x = new FiveStars();
        int[] counts = {0, 0, 0, 0, 0, 0, 0, 1};
        for (int what = 0; what < 8; what++) {
            due("count(" + what + ")", x.count(what), counts[what]);
        }
        due("thingTold(0, 0)", x.thingTold(0, 0), BAD);
        due("nameTold(0, 0)", x.nameTold(0, 0), BAD);
        due("told(0, 0)", x.told(0, 0), BAD);
        due("as(0, 0)", x.as(0, 0), BAD);
        due("mean(0, 0)", x.mean(0, 0), BAD);
        due("changed(0, 0)", x.changed(0, 0), BAD);
        due("shelf(0)", x.shelf(0), NONE);
        due("group(1, 0)", x.group(1, 0), 0);
        due("wave(1, 0)", x.wave(1, 0), NONE);
        due("off(0, 0)", x.off(0, 0), 0);
        due("off(0, 1)", x.off(0, 1), 0);
        due("bound(0)", x.bound(0), 10);
        due("bound(1)", x.bound(1), 0);
        due("clean(0)", x.clean(0), 0);
        due("buy(1, 0)", x.buy(1, 0), NO);
        due("job(0, 1, 0, 1)", x.job(0, 1, 0, 1), BAD);
        due("textTold(0, 0)", x.textTold(0, 0), BAD);
        due("back()", x.back(), NO);
        due("check(1, 0)", x.check(1, 0), NO);
        due("trim(0)", x.trim(0), 0);
        due("text()", x.text(), -100);
        due("why(0)", x.why(0), NONE);

        edge(1, "z is told (1 at first)");
        due("seed(5)", new FiveStars().seed(5), 1);

        edge(1, "or MISSING (at first)");
        for (int i = 0; i < 4; i++) {
            due("reads(" + i + ")", x.reads(i), NOTHING);
        }

        edge(1, "SLOTS 0 .. 4 each hold nothing (at first)");
        for (int i = 0; i < 5; i++) {
            due("item(" + i + ", 0)", x.item(i, 0), NOTHING);
            due("lay(" + i + ", 0, 0)", x.lay(i, 0, 0), 0);
        }
    }

    private static void objectsLast() {
        edge(1, "An object is used for at most 512 calls after it has been made");
        FiveStars x = new FiveStars();
        for (int i = 1; i <= 508; i++) {
            due("call " + i, x.seed(i + 1), i);
        }
        due("the 509th", x.thing(7), 0);
        due("the 510th", x.name(9), 0);
        due("the 511th", x.word(3, 0, 9995), 0);
        due("the 512th", x.told(0, 6), 80);
        FiveStars full = new FiveStars();
        for (int i = 0; i < 511; i++) {
            full.thing(i % 101);
        }
        due("the 512th", full.thing(0), FULL);
    }

    // ---- 2 .. 4

    private static void thing() {
        edge(2, "a WORTH w 0 .. 100");
        range("thing", 0, 0, 100, 0, v -> new FiveStars().thing(v));
        FiveStars x = new FiveStars();
        x.thing(0);
        x.thing(100);
        due("the least w", x.thingTold(0, 0), 0);
        due("the most w", x.thingTold(1, 0), 100);

        edge(2, "THINGS, 6 at most, numbered from 0");
        FiveStars full = new FiveStars();
        for (int i = 0; i < 6; i++) {
            due("THING " + i, full.thing(10 * i), i);
        }
        due("the seventh", full.thing(60), FULL);
        due("count(0)", full.count(0), 6);
        for (int i = 0; i < 6; i++) {
            due("w of " + i, full.thingTold(i, 0), 10 * i);
        }

        edge(2, "One more THING: its number. BAD; FULL.");
        due("BAD stands ahead of FULL", full.thing(101), BAD);
        due("BAD stands ahead of FULL", full.thing(-1), BAD);
        FiveStars refused = new FiveStars();
        refused.thing(101);
        due("a refused one takes no number", refused.thing(5), 0);
    }

    private static void thingTold() {
        edge(3, "Of a THING: what 0 w, 1 BUYERS, 2 how many WORDS, 3 its place on THE SHELF. BAD.");
        range("thingTold(0, what)", 0, 50, 3, 0, v -> made(1, 0).thingTold(0, v));
        range("thingTold(thing, 0) of one", 0, 50, 0, 50, v -> made(1, 0).thingTold(v, 0));
        range("thingTold(thing, 3) of six", 0, 0, 5, 5, v -> made(6, 0).thingTold(v, 3));
        due("no WORDS", spoken(2, 1, 24).thingTold(1, 2), 0);
        due("all WORDS", spoken(2, 1, 24).thingTold(0, 2), 24);

        edge(3, "BUYERS 0 .. 9999 (0 at first)");
        due("BUYERS at first", made(1, 0).thingTold(0, 1), 0);
    }

    private static void set() {
        edge(4, "w (what 0), BUYERS (1) of a THING becomes v: what it was. BAD.");
        range("set(0, what, 5)", 0, 50, 1, 0, v -> made(1, 0).set(0, v, 5));
        range("set(thing, 0, 5)", 0, 50, 5, 50, v -> made(6, 0).set(v, 0, 5));
        range("set(thing, 1, 5) of two", 0, 0, 1, 0, v -> made(2, 0).set(v, 1, 5));

        edge(4, "a WORTH w 0 .. 100");
        range("set(0, 0, v)", 0, 50, 100, 50, v -> made(1, 0).set(0, 0, v));
        FiveStars x = made(2, 0);
        x.set(0, 0, 100);
        due("what it was, the most", x.set(0, 0, 0), 100);
        due("what it was, the least", x.set(0, 0, 1), 0);
        due("the other one", x.thingTold(1, 0), 50);

        edge(4, "BUYERS 0 .. 9999 (0 at first)");
        range("set(0, 1, v)", 0, 0, 9999, 0, v -> made(1, 0).set(0, 1, v));
        due("BUYERS may be more than 100", x.set(0, 1, 101), 0);
        due("what they were", x.set(0, 1, 9999), 101);
        due("what they were, the most", x.set(0, 1, 0), 9999);
        due("w is what it was", x.thingTold(0, 0), 1);
    }

    // ---- 5, 6

    private static void name() {
        edge(5, "each BORN in an HOUR 0 .. 999");
        range("name", 0, 0, 999, 0, v -> new FiveStars().name(v));

        edge(5, "NAMES, 12 at most, numbered from 0");
        FiveStars full = new FiveStars();
        for (int i = 0; i < 12; i++) {
            due("NAME " + i, full.name(999 - i), i);
        }
        due("the thirteenth", full.name(0), FULL);
        due("count(1)", full.count(1), 12);
        for (int i = 0; i < 12; i++) {
            due("BORN of " + i, full.nameTold(i, 0), 999 - i);
        }

        edge(5, "One more NAME, BORN in an HOUR: its number. BAD; FULL.");
        due("BAD stands ahead of FULL", full.name(1000), BAD);
        due("BAD stands ahead of FULL", full.name(-1), BAD);
        FiveStars refused = new FiveStars();
        refused.name(1000);
        due("a refused one takes no number", refused.name(5), 0);
    }

    private static void nameTold() {
        edge(6, "Of a NAME: what 0 BORN, 1 how many WORDS, 2 the HOUR of its first one (least HOUR; NONE). BAD.");
        range("nameTold(0, what)", 0, 0, 2, 1, v -> spoken(1, 1, 1).nameTold(0, v));
        range("nameTold(name, 0) of one", 0, 0, 0, 0, v -> made(0, 1).nameTold(v, 0));
        range("nameTold(name, 0) of twelve", 0, 0, 11, 110, v -> made(0, 12).nameTold(v, 0));
        due("no WORDS", spoken(1, 2, 24).nameTold(1, 1), 0);
        due("all WORDS", spoken(1, 2, 24).nameTold(0, 1), 24);
        due("no first one", spoken(1, 2, 24).nameTold(1, 2), NONE);
        FiveStars x = made(2, 1);
        x.word(0, 0, 9991);
        due("the last HOUR", x.nameTold(0, 2), 999);
        x.word(0, 100, 51);
        x.word(5, 0, 61);
        due("least, not first written, of whatever THING", x.nameTold(0, 2), 5);
        x.word(0, 0, 1);
        due("HOUR 0", x.nameTold(0, 2), 0);
        x.drop(3);
        x.drop(1);
        due("of those that are left", x.nameTold(0, 2), 6);
        x.clean(0);
        due("NONE again", x.nameTold(0, 2), NONE);
    }

    // ---- 7

    private static void word() {
        edge(7, "WORDS, 24 at most, numbered from 0");
        FiveStars full = made(1, 1);
        for (int i = 0; i < 24; i++) {
            due("WORD " + i, full.word(0, 0, 15), i);
        }
        due("the 25th", full.word(0, 0, 15), FULL);
        due("count(2)", full.count(2), 24);
        full.drop(23);
        due("room for one", full.word(0, 0, 15), 23);
        due("and for no more", full.word(0, 0, 15), FULL);

        edge(7, "and of KINDS: 0 WORD; 1 BOUGHT, 2 PAID, 5 RIVAL, under WORD; 3 THANKED, under BOUGHT; 4 MOVED, under PAID"
            + " (all are WORDS).");
        range("word(kind, 0, 15)", 0, 0, 5, 0, v -> made(1, 1).word(v, 0, 15));

        edge(7, "its number. BAD; FULL.");
        due("BAD stands ahead of FULL: kind", full.word(6, 0, 15), BAD);
        due("BAD stands ahead of FULL: of", full.word(0, 1, 15), BAD);
        due("BAD stands ahead of FULL: at", full.word(0, 0, 16), BAD);
        due("no NAMES", made(1, 0).word(0, 0, 15), BAD);
        due("no THINGS", made(0, 1).word(0, 0, 15), BAD);
    }

    private static void wordNumbers() {
        edge(7, "One more WORD (of: 100 times the THING, and the NAME; at: 10 times HOUR, and STARS)");
        for (int of = -100; of <= 1300; of++) {
            boolean isPair = of >= 0 && of < 600 && of % 100 < 12;
            FiveStars x = made(6, 12);
            due("word(0, " + of + ", 15)", x.word(0, of, 15), isPair ? 0 : BAD);
            if (isPair) {
                due("THING of " + of, 100 * x.told(0, 1), of - of % 100);
                due("NAME of " + of, x.told(0, 2), of % 100);
            }
        }
        range("word(0, of, 15) of one THING and two NAMES", 0, 0, 1, 0, v -> made(1, 2).word(0, v, 15));
        due("a great one", made(6, 12).word(0, 2147483600, 15), BAD);
        due("a small one", made(6, 12).word(0, -2147483600, 15), BAD);

        edge(7, "by a NAME, of a THING, in an HOUR 0 .. 999, with STARS 1 .. 5");
        for (int at = -20; at <= 10020; at += at == 40 ? 9900 : 1) {
            boolean isMoment = at >= 0 && at < 10000 && at % 10 >= 1 && at % 10 <= 5;
            FiveStars x = made(1, 1);
            due("word(0, 0, " + at + ")", x.word(0, 0, at), isMoment ? 0 : BAD);
            if (isMoment) {
                due("HOUR of " + at, x.told(0, 3), at / 10);
                due("STARS of " + at, x.told(0, 4), at % 10);
            }
        }
        for (int at : new int[] {MIN, MAX, MAX - 2, MAX - 6, MIN + 5, NONE, 100001, -9995, 65537}) {
            due("word(0, 0, " + at + ")", made(1, 1).word(0, 0, at), BAD);
        }
    }

    // ---- 8

    private static void told() {
        edge(8, "Of a WORD: what 0 KIND, 1 THING, 2 NAME, 3 HOUR, 4 STARS, 5 WEIGHT, 6 what it SAYS, 7 SIGN,"
            + " 8 whether TRUE (1, 0). BAD.");
        range("told(0, what)", 0, 0, 8, 1, v -> spoken(1, 1, 1).told(0, v));
        range("told(word, 4) of one", 0, 5, 0, 5, v -> spoken(1, 1, 1).told(v, 4));
        range("told(word, 4) of 24", 0, 5, 23, 5, v -> spoken(1, 1, 24).told(v, 4));
        FiveStars x = made(6, 12);
        x.word(5, 511, 9995);
        int[] last = {5, 5, 11, 999, 5, 0, 0, 0, 0};
        x.word(0, 0, 1);
        int[] least = {0, 0, 0, 0, 1, 2, 20, 0, 1};
        for (int what = 0; what <= 8; what++) {
            due("told(0, " + what + ")", x.told(0, what), last[what]);
            due("told(1, " + what + ")", x.told(1, what), least[what]);
        }

        edge(8, "TRUE are WORDS that are no PAID, no RIVAL ones, and none under these.");
        int[] isTrue = {1, 1, 0, 1, 0, 0};
        FiveStars each = made(1, 1);
        for (int kind = 0; kind < 6; kind++) {
            each.word(kind, 0, 15);
            due("KIND " + kind, each.told(kind, 8), isTrue[kind]);
        }

        edge(8, "SIGN of a WORD: what sign gives, held within 0 .. 9 (without a TEXT: 0)");
        FiveStars signs = spoken(1, 1, 1);
        due("without a TEXT", signs.told(0, 7), 0);
        String[] gives = {"0-9999", "0-1", "0", "1", "8", "9", "10", "9999", "8192*8192*32", "8192*8192*32-1"};
        int[] held = {0, 0, 0, 1, 8, 9, 9, 9, 0, 9};
        for (int i = 0; i < gives.length; i++) {
            law(signs, "sign " + gives[i]);
            due("SIGN by " + gives[i], signs.told(0, 7), held[i]);
        }
    }

    /** WEIGHTS of the six KINDS in HOUR 2, and of a MOVED one in HOUR 3. */
    private static void dueWeights(FiveStars x, String by, int... want) {
        for (int i = 0; i < 7; i++) {
            due("WEIGHT of " + i + " by " + by, x.told(i, 5), want[i]);
        }
    }

    private static void weights() {
        FiveStars x = made(1, 1);
        for (int kind = 0; kind < 6; kind++) {
            x.word(kind, 0, 25);
        }
        x.word(4, 0, 35);
        edge(8, "WEIGHT: WORD: what weigh gives, held within 0 .. 9 (without a TEXT: 2)");
        dueWeights(x, "no TEXT", 2, 3, 1, 1, 1, 0, 0);
        String[] less = {"0-9999", "0-1", "0", "8192*8192*32"};
        for (String by : less) {
            law(x, "weigh " + by);
            dueWeights(x, by, 0, 1, 0, 0, 0, 0, 0);
        }
        String[] more = {"9", "10", "9999", "8192*8192*32-1"};
        for (String by : more) {
            law(x, "weigh " + by);
            dueWeights(x, by, 9, 10, 8, 5, 8, 0, 0);
        }

        edge(8, "BOUGHT: as WORD, and 1.");
        law(x, "weigh 9");
        due("9 and 1, not held within 9", x.told(1, 5), 10);
        law(x, "weigh 0");
        due("0 and 1", x.told(1, 5), 1);
        law(x, "weigh 0-5");
        due("0 (held) and 1", x.told(1, 5), 1);

        edge(8, "RIVAL: 0.");
        due("by -5", x.told(5, 5), 0);
        law(x, "weigh 9");
        due("by 9", x.told(5, 5), 0);

        edge(8, "PAID: as WORD, less 1, 0 at least.");
        law(x, "weigh 1");
        dueWeights(x, "1", 1, 2, 0, 1, 0, 0, 0);

        edge(8, "THANKED: half (cut) of as BOUGHT.");
        law(x, "weigh 8");
        dueWeights(x, "8", 8, 9, 7, 4, 7, 0, 0);

        edge(8, "MOVED: as PAID, if its HOUR is even, else 0.");
        FiveStars moved = made(1, 1);
        int[] hours = {0, 1, 2, 997, 998, 999};
        for (int i = 0; i < 6; i++) {
            moved.word(4, 0, 10 * hours[i] + 1);
            due("HOUR " + hours[i], moved.told(i, 5), hours[i] % 2 == 0 ? 1 : 0);
        }
    }

    private static void says() {
        edge(8, "SAYS: WORD: 20 times STARS. THANKED: as BOUGHT, less 20. PAID: 50. MOVED: as PAID, and STARS."
            + " RIVAL: 100 less as WORD.");
        int[] withOne = {20, 20, 50, 0, 51, 80};
        int[] withFive = {100, 100, 50, 80, 55, 0};
        for (int kind = 0; kind < 6; kind++) {
            FiveStars x = made(1, 1);
            x.word(kind, 0, 1);
            x.word(kind, 0, 9995);
            due("KIND " + kind + " with 1", x.told(0, 6), withOne[kind]);
            due("KIND " + kind + " with 5", x.told(1, 6), withFive[kind]);
        }
    }

    // ---- 9 .. 12

    private static void as() {
        edge(9, "A WORD as one of a KIND: STARS. BAD: word, kind; KIND: it is not of that KIND, nor of one under it.");
        range("as(word, 0) of one", 0, 5, 0, 5, v -> spoken(1, 1, 1).as(v, 0));
        range("as(word, 0) of 24", 0, 5, 23, 5, v -> spoken(1, 1, 24).as(v, 0));
        range("as(0, kind)", 0, 5, 5, KIND, v -> spoken(1, 1, 1).as(0, v));
        due("BAD stands ahead of KIND", spoken(1, 1, 1).as(1, 5), BAD);
        FiveStars x = made(1, 1);
        int[] above = {0, 0, 0, 1, 2, 0};
        for (int kind = 0; kind < 6; kind++) {
            x.word(kind, 0, kind % 2 == 0 ? 1 : 5);
            for (int asked = 0; asked < 6; asked++) {
                boolean is = asked == 0 || asked == kind || asked == above[kind];
                due("as(" + kind + ", " + asked + ")", x.as(kind, asked), is ? kind % 2 == 0 ? 1 : 5 : KIND);
            }
        }
    }

    private static void turns() {
        edge(10, "A WORD is of another KIND from now on: what it was. BAD.");
        range("turns(word, 1) of one", 0, 0, 0, 0, v -> spoken(1, 1, 1).turns(v, 1));
        range("turns(word, 1) of 24", 0, 0, 23, 0, v -> spoken(1, 1, 24).turns(v, 1));
        range("turns(0, kind)", 0, 0, 5, 0, v -> spoken(1, 1, 1).turns(0, v));
        FiveStars x = made(2, 2);
        x.word(0, 101, 9993);
        x.word(5, 101, 9993);
        for (int kind = 0; kind < 6; kind++) {
            due("turns(0, " + kind + ")", x.turns(0, kind), Math.max(0, kind - 1));
            int[] stays = {kind, 1, 1, 999, 3};
            for (int what = 0; what < 5; what++) {
                due("told(0, " + what + ")", x.told(0, what), stays[what]);
            }
            due("the other one", x.told(1, 0), 5);
        }
        due("to the one that it is", x.turns(0, 5), 5);
        due("it SAYS by its KIND now", x.told(0, 6), 40);
        due("and is as it is", x.as(0, 4), KIND);
        due("TRUE ones", x.count(3), 0);
    }

    private static void star() {
        edge(11, "STARS of a WORD become v: what they were. BAD.");
        range("star(word, 3) of one", 0, 5, 0, 5, v -> spoken(1, 1, 1).star(v, 3));
        range("star(word, 3) of 24", 0, 5, 23, 5, v -> spoken(1, 1, 24).star(v, 3));

        edge(11, "with STARS 1 .. 5");
        range("star(0, v)", 1, 5, 5, 5, v -> spoken(1, 1, 1).star(0, v));
        FiveStars x = spoken(1, 1, 2);
        due("the most they were", x.star(1, 1), 5);
        due("the least they were", x.star(1, 2), 1);
        due("the other one", x.told(0, 4), 5);
        due("MEAN goes by it", x.mean(0, 0), 350);
    }

    private static void drop() {
        edge(12, "A WORD goes; those with greater numbers have one less: how many there are. BAD.");
        range("drop(word) of one", 0, 0, 0, 0, v -> spoken(1, 1, 1).drop(v));
        range("drop(word) of 24", 0, 23, 23, 23, v -> spoken(1, 1, 24).drop(v));
        due("of none", made(1, 1).drop(0), BAD);
        for (int gone : new int[] {0, 1, 11, 22, 23}) {
            FiveStars x = made(2, 12);
            for (int i = 0; i < 24; i++) {
                x.word(i % 6, 100 * (i / 12) + i % 12, 10 * i + 1 + i % 5);
            }
            due("drop(" + gone + ")", x.drop(gone), 23);
            for (int now = 0; now < 23; now++) {
                int was = now < gone ? now : now + 1;
                int[] told = {was % 6, was / 12, was % 12, was, 1 + was % 5};
                for (int what = 0; what < 5; what++) {
                    due("told(" + now + ", " + what + ") behind drop(" + gone + ")", x.told(now, what), told[what]);
                }
            }
            due("the last number is gone", x.told(23, 0), BAD);
        }
        FiveStars two = spoken(1, 1, 2);
        due("the last of two", two.drop(1), 1);
        due("the number is gone", two.drop(1), BAD);
        due("the last one", two.drop(0), 0);
        due("none is left", two.drop(0), BAD);
        due("MEAN", two.mean(0, 0), NONE);
    }
}
