/** Each promise of the document by hand: ordinary inputs, the edges that are named, and wrong inputs. */
public final class PromisesTest extends Hand {
    // ---- 1 .. 6: things, names

    private static void newObject() {
        promise = 1;
        FiveStars x = new FiveStars();
        for (int what = 0; what < 7; what++) {
            due("count(" + what + ")", x.count(what), 0);
        }
        due("count(7)", x.count(7), 1);
        due("shelf(0)", x.shelf(0), NONE);
        due("back()", x.back(), NO);
        for (int i = 0; i < 4; i++) {
            due("reads(" + i + ")", x.reads(i), NOTHING);
        }
        for (int i = 0; i < 5; i++) {
            due("rest(" + i + ", 1)", x.rest(i, 1), NOTHING);
        }
        for (int i = 0; i < 3; i++) {
            due("why(" + i + ")", x.why(i), NONE);
        }
        FiveStars other = new FiveStars();
        x.thing(1);
        due("another object's count(0)", other.count(0), 0);
    }

    private static void things() {
        promise = 2;
        FiveStars x = new FiveStars();
        due("thing(-1)", x.thing(-1), BAD);
        due("thing(101)", x.thing(101), BAD);
        for (int i = 0; i < 6; i++) {
            due("thing", x.thing(i % 2 == 0 ? 0 : 100), i);
        }
        due("the seventh", x.thing(50), FULL);
        due("a bad seventh", x.thing(101), BAD);
        due("count(0)", x.count(0), 6);

        promise = 3;
        x = made(3, 1);
        x.set(1, 0, 77);
        x.set(1, 1, 9);
        x.word(0, 200, 13);
        x.word(0, 200, 23);
        x.word(0, 100, 14);
        due("w", x.thingTold(1, 0), 77);
        due("BUYERS", x.thingTold(1, 1), 9);
        due("BUYERS at first", x.thingTold(0, 1), 0);
        due("WORDS", x.thingTold(2, 2), 2);
        due("no WORDS", x.thingTold(0, 2), 0);
        due("first place", x.thingTold(1, 3), 0);
        due("second place", x.thingTold(2, 3), 1);
        due("third place", x.thingTold(0, 3), 2);
        due("thing 3", x.thingTold(3, 0), BAD);
        due("thing -1", x.thingTold(-1, 0), BAD);
        due("what 4", x.thingTold(0, 4), BAD);
        due("what -1", x.thingTold(0, -1), BAD);

        promise = 4;
        x = made(1, 0);
        due("w", x.set(0, 0, 100), 50);
        due("w", x.set(0, 0, 0), 100);
        due("BUYERS", x.set(0, 1, 9999), 0);
        due("BUYERS", x.set(0, 1, 0), 9999);
        due("w 101", x.set(0, 0, 101), BAD);
        due("w -1", x.set(0, 0, -1), BAD);
        due("BUYERS 10000", x.set(0, 1, 10000), BAD);
        due("BUYERS -1", x.set(0, 1, -1), BAD);
        due("thing 1", x.set(1, 0, 5), BAD);
        due("thing -1", x.set(-1, 0, 5), BAD);
        due("what 2", x.set(0, 2, 5), BAD);
        due("what -1", x.set(0, -1, 5), BAD);
        due("w is as it was", x.thingTold(0, 0), 0);
        due("BUYERS are as they were", x.thingTold(0, 1), 0);
    }

    private static void names() {
        promise = 5;
        FiveStars x = new FiveStars();
        due("name(-1)", x.name(-1), BAD);
        due("name(1000)", x.name(1000), BAD);
        for (int i = 0; i < 12; i++) {
            due("name", x.name(i % 2 == 0 ? 0 : 999), i);
        }
        due("the thirteenth", x.name(5), FULL);
        due("a bad thirteenth", x.name(1000), BAD);

        promise = 6;
        x = made(2, 3);
        x.word(0, 1, 305);
        x.word(0, 101, 95);
        x.word(0, 1, 405);
        due("BORN", x.nameTold(2, 0), 20);
        due("WORDS", x.nameTold(1, 1), 3);
        due("the least HOUR", x.nameTold(1, 2), 9);
        due("no WORDS", x.nameTold(0, 1), 0);
        due("no HOUR", x.nameTold(0, 2), NONE);
        due("name 3", x.nameTold(3, 0), BAD);
        due("name -1", x.nameTold(-1, 0), BAD);
        due("what 3", x.nameTold(0, 3), BAD);
        due("what -1", x.nameTold(0, -1), BAD);
    }

    // ---- 7 .. 12: words

    private static void words() {
        promise = 7;
        FiveStars x = made(2, 2);
        int[][] refused = {{6, 0, 15}, {-1, 0, 15}, {0, 2, 15}, {0, 200, 15}, {0, -1, 15}, {0, -100, 15}, {0, MIN, 15},
            {0, MAX, 15}, {0, 0, 10}, {0, 0, 16}, {0, 0, 0}, {0, 0, -5}, {0, 0, 10001}, {0, 0, MAX}, {0, 0, MIN}, {0, 0, -9}};
        for (int[] r : refused) {
            due("word(" + r[0] + ", " + r[1] + ", " + r[2] + ")", x.word(r[0], r[1], r[2]), BAD);
        }
        due("count(2)", x.count(2), 0);
        for (int i = 0; i < 24; i++) {
            due("word", x.word(i % 6, i % 2 == 0 ? 101 : 0, i == 0 ? 9995 : 1), i);
        }
        due("told(0, 1)", x.told(0, 1), 1);
        due("told(0, 2)", x.told(0, 2), 1);
        due("told(0, 3)", x.told(0, 3), 999);
        due("told(0, 4)", x.told(0, 4), 5);
        due("told(1, 1)", x.told(1, 1), 0);
        due("told(1, 3)", x.told(1, 3), 0);
        due("told(1, 4)", x.told(1, 4), 1);
        due("the 25th", x.word(0, 0, 15), FULL);
        due("a bad 25th", x.word(0, 0, 16), BAD);
        due("word without names", made(1, 0).word(0, 0, 15), BAD);
        due("word without things", made(0, 1).word(0, 0, 15), BAD);
    }

    private static void told() {
        promise = 8;
        FiveStars x = made(1, 1);
        for (int kind = 0; kind < 6; kind++) {
            x.word(kind, 0, 43);
        }
        x.word(4, 0, 33);
        int[] weights = {2, 3, 1, 1, 1, 0, 0};
        int[] says = {60, 60, 50, 40, 53, 40, 53};
        int[] isTrue = {1, 1, 0, 1, 0, 0, 0};
        for (int i = 0; i < 7; i++) {
            due("KIND of " + i, x.told(i, 0), i < 6 ? i : 4);
            due("WEIGHT of " + i, x.told(i, 5), weights[i]);
            due("what " + i + " SAYS", x.told(i, 6), says[i]);
            due("SIGN of " + i, x.told(i, 7), 0);
            due("TRUE of " + i, x.told(i, 8), isTrue[i]);
        }
        law(x, "weigh 99");
        int[] most = {9, 10, 8, 5, 8, 0, 0};
        for (int i = 0; i < 7; i++) {
            due("WEIGHT by 99 of " + i, x.told(i, 5), most[i]);
        }
        law(x, "weigh 0-5");
        int[] least = {0, 1, 0, 0, 0, 0, 0};
        for (int i = 0; i < 7; i++) {
            due("WEIGHT by -5 of " + i, x.told(i, 5), least[i]);
        }
        law(x, "sign 99");
        due("SIGN by 99", x.told(0, 7), 9);
        law(x, "sign 0-1");
        due("SIGN by -1", x.told(0, 7), 0);
        due("word 7", x.told(7, 0), BAD);
        due("word -1", x.told(-1, 0), BAD);
        due("what 9", x.told(0, 9), BAD);
        due("what -1", x.told(0, -1), BAD);
    }

    private static void kinds() {
        promise = 9;
        FiveStars x = made(1, 1);
        int[][] isUnder = {{1, 0, 0, 0, 0, 0}, {1, 1, 0, 0, 0, 0}, {1, 0, 1, 0, 0, 0}, {1, 1, 0, 1, 0, 0},
            {1, 0, 1, 0, 1, 0}, {1, 0, 0, 0, 0, 1}};
        for (int kind = 0; kind < 6; kind++) {
            x.word(kind, 0, 14);
        }
        for (int kind = 0; kind < 6; kind++) {
            for (int above = 0; above < 6; above++) {
                due("as(" + kind + ", " + above + ")", x.as(kind, above), isUnder[kind][above] == 1 ? 4 : KIND);
            }
        }
        due("word 6", x.as(6, 0), BAD);
        due("word -1", x.as(-1, 0), BAD);
        due("kind 6", x.as(0, 6), BAD);
        due("kind -1", x.as(0, -1), BAD);

        promise = 10;
        due("turns(0, 5)", x.turns(0, 5), 0);
        due("turns(0, 3)", x.turns(0, 3), 5);
        due("told(0, 0)", x.told(0, 0), 3);
        due("STARS stay", x.told(0, 4), 4);
        due("word 6", x.turns(6, 0), BAD);
        due("word -1", x.turns(-1, 0), BAD);
        due("kind 6", x.turns(0, 6), BAD);
        due("kind -1", x.turns(0, -1), BAD);
        due("told(0, 0) again", x.told(0, 0), 3);

        promise = 11;
        due("star(1, 1)", x.star(1, 1), 4);
        due("star(1, 5)", x.star(1, 5), 1);
        due("star(1, 0)", x.star(1, 0), BAD);
        due("star(1, 6)", x.star(1, 6), BAD);
        due("star(6, 1)", x.star(6, 1), BAD);
        due("star(-1, 1)", x.star(-1, 1), BAD);
        due("told(1, 4)", x.told(1, 4), 5);

        promise = 12;
        x = made(2, 2);
        x.word(0, 0, 11);
        x.word(1, 101, 22);
        x.word(2, 1, 33);
        due("drop(3)", x.drop(3), BAD);
        due("drop(-1)", x.drop(-1), BAD);
        due("drop(0)", x.drop(0), 2);
        due("KIND of 0", x.told(0, 0), 1);
        due("THING of 0", x.told(0, 1), 1);
        due("NAME of 0", x.told(0, 2), 1);
        due("HOUR of 1", x.told(1, 3), 3);
        due("STARS of 1", x.told(1, 4), 3);
        due("word 2", x.told(2, 0), BAD);
        due("drop(1)", x.drop(1), 1);
        due("KIND of 0", x.told(0, 0), 1);
        due("drop(0)", x.drop(0), 0);
        due("drop(0)", x.drop(0), BAD);
    }

    // ---- 13, 14: means

    private static void means() {
        promise = 13;
        FiveStars x = made(2, 1);
        for (int what = 0; what < 5; what++) {
            due("mean(0, " + what + ")", x.mean(0, what), NONE);
        }
        due("a STAR's worth without WORDS", x.mean(0, 5), 500);
        x.set(0, 1, 1);
        due("low with BUYERS alone", x.mean(0, 3), 0);
        due("high with BUYERS alone", x.mean(0, 4), 100);
        x.set(0, 1, 0);
        x.word(0, 0, 15);
        x.word(1, 0, 14);
        x.word(3, 0, 11);
        x.word(2, 100, 11);
        due("MEAN", x.mean(0, 0), 333);
        due("WEIGHED", x.mean(0, 1), (100 * (2 * 5 + 3 * 4 + 1)) / 6);
        due("GOOD", x.mean(0, 2), (2 * 100 + 3 * 80) / 6);
        due("low", x.mean(0, 3), 60);
        due("high", x.mean(0, 4), 60);
        due("a STAR's worth", x.mean(0, 5), 375 - 333);
        x.set(0, 1, 7);
        due("low by BUYERS", x.mean(0, 3), 180 / 7);
        due("high by BUYERS", x.mean(0, 4), 580 / 7);
        x.set(0, 1, 2);
        due("low by WORDS", x.mean(0, 3), 60);
        due("high by WORDS", x.mean(0, 4), 60);
        law(x, "weigh 0");
        due("WEIGHED, a BOUGHT one alone", x.mean(0, 1), 400);
        due("WEIGHED of weights 0", x.mean(1, 1), NONE);
        due("GOOD of weights 0", x.mean(1, 2), NONE);
        due("MEAN all the same", x.mean(1, 0), 100);
        due("thing 2", x.mean(2, 0), BAD);
        due("thing -1", x.mean(-1, 0), BAD);
        due("what 6", x.mean(0, 6), BAD);
        due("what -1", x.mean(0, -1), BAD);

        promise = 14;
        x = made(4, 1);
        x.word(0, 200, 15);
        x.word(0, 100, 13);
        x.word(0, 300, 13);
        int[] shelf = {2, 1, 3, 0};
        for (int i = 0; i < 4; i++) {
            due("shelf(" + i + ")", x.shelf(i), shelf[i]);
        }
        due("shelf(4)", x.shelf(4), NONE);
        due("shelf(MAX)", x.shelf(MAX), NONE);
        due("shelf(-1)", x.shelf(-1), BAD);
        law(x, "show 0-m");
        int[] turned = {0, 1, 3, 2};
        for (int i = 0; i < 4; i++) {
            due("shelf(" + i + ") turned", x.shelf(i), turned[i]);
        }
        x.turns(1, 5);
        law(x, "show w+c");
        int[] weighed = {2, 3, 1, 0};
        for (int i = 0; i < 4; i++) {
            due("shelf(" + i + ") weighed", x.shelf(i), weighed[i]);
        }
    }

    // ---- 15 .. 18: groups, waves, changes

    private static void groups() {
        promise = 15;
        FiveStars x = made(2, 3);
        x.word(0, 0, 105);
        x.word(5, 1, 155);
        x.word(0, 1, 104);
        x.word(0, 100, 101);
        x.word(0, 101, 121);
        x.word(0, 101, 101);
        due("within 0", x.alike(0, 1, 0), 1);
        due("within 4", x.alike(1, 0, 4), 1);
        due("within 5", x.alike(0, 1, 5), 2);
        due("nothing in common", x.alike(0, 2, 999), 0);
        due("itself", x.alike(1, 1, 5), BAD);
        due("name 3", x.alike(0, 3, 5), BAD);
        due("name 3", x.alike(3, 0, 5), BAD);
        due("name -1", x.alike(-1, 0, 5), BAD);
        due("name -1", x.alike(0, -1, 5), BAD);
        due("w 1000", x.alike(0, 1, 1000), BAD);
        due("w -1", x.alike(0, 1, -1), BAD);

        promise = 16;
        due("group(1, 0)", x.group(1, 0), 3);
        due("group(2, 5)", x.group(2, 5), 3);
        due("group(2, 4)", x.group(2, 4), 1);
        due("group(0, 4)", x.group(0, 4), BAD);
        due("group(7, 4)", x.group(7, 4), BAD);
        due("group(1, -1)", x.group(1, -1), BAD);
        due("group(1, 1000)", x.group(1, 1000), BAD);
        due("without NAMES", made(1, 0).group(1, 1), 0);
        due("one NAME", made(0, 1).group(6, 0), 1);
        FiveStars chain = made(1, 4);
        chain.word(0, 1, 105);
        chain.word(0, 2, 115);
        chain.word(0, 3, 125);
        due("no two ends of a chain", chain.group(1, 1), 6);
        due("all of the chain", chain.group(1, 2), 14);
        FiveStars all = made(6, 12);
        for (int i = 0; i < 24; i++) {
            all.word(0, 100 * (i / 12) + i % 12, 5005);
        }
        due("all twelve", all.group(2, 0), 4095);
        due("too often", all.group(3, 999), 1);
    }

    private static void waves() {
        promise = 17;
        FiveStars x = made(1, 1);
        due("no WORDS", x.wave(1, 0), NONE);
        due("bad comes first", x.wave(0, 0), BAD);
        x.word(0, 0, 55);
        due("from the least", x.wave(3, 0), 3);
        due("one", x.wave(3, 1), 1);
        due("w 1", x.wave(1, 0), 5);
        due("w 1000", x.wave(1000, 0), 0);
        x.word(0, 0, 9995);
        x.word(0, 0, 9985);
        due("at the end", x.wave(2, 0), 998);
        due("two", x.wave(2, 1), 2);
        due("w 3", x.wave(3, 0), 997);
        due("all", x.wave(995, 0), 5);
        due("all", x.wave(995, 1), 3);
        x.word(0, 0, 65);
        due("of several the least", x.wave(2, 0), 5);
        due("w 1001", x.wave(1001, 0), BAD);
        due("w -1", x.wave(-1, 0), BAD);
        due("what 2", x.wave(1, 2), BAD);
        due("what -1", x.wave(1, -1), BAD);

        promise = 18;
        x = made(2, 1);
        due("no WORDS", x.changed(0, 0), NONE);
        x.word(0, 0, 55);
        x.word(0, 0, 51);
        due("one HOUR alone", x.changed(0, 1), NONE);
        x.word(0, 0, 71);
        due("changed(0, 0)", x.changed(0, 0), 7);
        due("changed(0, 1)", x.changed(0, 1), 200);
        x.word(0, 100, 11);
        x.word(0, 100, 23);
        x.word(0, 100, 35);
        x.word(0, 100, 43);
        x.word(0, 100, 51);
        due("by most", x.changed(1, 1), 200);
        due("of several the least", x.changed(1, 0), 2);
        FiveStars same = made(1, 1);
        same.word(0, 0, 54);
        same.word(0, 0, 64);
        same.word(0, 0, 74);
        due("by nothing", same.changed(0, 1), 0);
        due("the least by nothing", same.changed(0, 0), 6);
        due("thing 2", x.changed(2, 0), BAD);
        due("thing -1", x.changed(-1, 0), BAD);
        due("what 2", x.changed(0, 2), BAD);
        due("what -1", x.changed(0, -1), BAD);
    }

    // ---- 19 .. 21: signs

    private static void signs() {
        promise = 19;
        FiveStars x = made(1, 3);
        x.word(2, 0, 15);
        x.word(0, 0, 13);
        x.word(5, 1, 14);
        x.word(3, 1, 11);
        x.word(4, 2, 12);
        due("without a TEXT all have 0", x.off(0, 0), 3);
        due("without a TEXT all have 0", x.off(0, 1), 2);
        due("none has 1", x.off(1, 0), 0);
        law(x, "sign s");
        due("4 and more, found", x.off(4, 0), 2);
        due("4 and more, wronged", x.off(4, 1), 0);
        due("3 and more, wronged", x.off(3, 1), 1);
        due("10, found", x.off(10, 0), 0);
        due("v 11", x.off(11, 0), BAD);
        due("v -1", x.off(-1, 0), BAD);
        due("what 2", x.off(0, 2), BAD);
        due("what -1", x.off(0, -1), BAD);

        promise = 20;
        due("the greatest of the best", x.bound(0), 4);
        due("its gain", x.bound(1), 2);
        law(x, "sign c*2+(s>1)");
        due("c counts the NAME's WORDS", x.told(4, 7), 3);
        due("5 and more, found", x.off(5, 0), 2);
        due("5 and more, wronged", x.off(5, 1), 1);
        due("the best", x.bound(0), 5);
        due("its gain", x.bound(1), 1);
        due("what 2", x.bound(2), BAD);
        due("what -1", x.bound(-1), BAD);
        due("without WORDS", new FiveStars().bound(0), 10);
        due("without WORDS", new FiveStars().bound(1), 0);
        FiveStars good = made(1, 1);
        good.word(0, 0, 15);
        due("no gain", good.bound(0), 10);
        good.turns(0, 2);
        due("0 alone finds it", good.bound(0), 0);
        due("0 alone finds it", good.bound(1), 1);

        promise = 21;
        due("v 11", x.clean(11), BAD);
        due("v -1", x.clean(-1), BAD);
        due("v 10", x.clean(10), 0);
        due("all at once by the signs as they were", x.clean(5), 3);
        due("count(2)", x.count(2), 2);
        due("those behind move up", x.told(0, 4), 1);
        due("those behind move up", x.told(1, 2), 2);
        due("none now", x.clean(5), 0);
        due("v 0", x.clean(0), 2);
    }

    // ---- 22 .. 24: buyers, jobs

    private static void buyers() {
        promise = 22;
        due("no THINGS", new FiveStars().buy(1, 0), NO);
        due("bad comes first", new FiveStars().buy(0, 0), BAD);
        FiveStars x = made(3, 4);
        x.set(1, 0, 100);
        int[][] refused = {{0, 5}, {21, 5}, {-1, 5}, {MAX, 5}, {1, -1}, {1, 1000}};
        for (int[] r : refused) {
            due("buy(" + r[0] + ", " + r[1] + ")", x.buy(r[0], r[1]), BAD);
        }
        due("z is as it was", x.count(7), 1);

        // A drawn THING, of which the buyer writes, for 49 is below 50.
        int z = seedFor(new int[] {3, 3, 100, 4}, 0, 1, 49, 3);
        x.seed(z);
        due("one writes", x.buy(1, 7), 1);
        due("four draws", x.count(7), drawn(z, 4));
        due("BUYERS", x.thingTold(1, 1), 1);
        due("KIND", x.told(0, 0), 1);
        due("THING", x.told(0, 1), 1);
        due("NAME", x.told(0, 2), 3);
        due("HOUR", x.told(0, 3), 7);
        due("STARS, 5 at most", x.told(0, 4), 5);

        // THE SHELF's first one (THING 1 now), as good as it was looked for: OFF is 0.
        z = seedFor(new int[] {3, 100}, 1, 0);
        x.seed(z);
        due("nothing to write", x.buy(1, 7), 0);
        due("two draws", x.count(7), drawn(z, 2));
        due("BUYERS", x.thingTold(1, 1), 2);

        // OFF is 100 less 60 once another has written 1 star: 39 writes, 40 does not.
        x.word(0, 100, 71);
        x.seed(seedFor(new int[] {3, 3, 100}, 0, 1, 40));
        due("40 of 40", x.buy(1, 7), 0);
        x.seed(seedFor(new int[] {3, 3, 100}, 0, 1, 39));
        due("39 of 40", x.buy(1, 999), 1);

        // The shelf is looked at anew for each buyer.
        FiveStars anew = made(2, 1);
        anew.set(0, 0, 0);
        anew.word(0, 100, 11);
        z = seedFor(new int[] {3, 100, 3, 2, 100, 1, 3}, 1, 99, 0, 0, 0, -1, 2);
        anew.seed(z);
        anew.buy(3, 0);
        due("by numbers once both have 100", anew.thingTold(0, 1), 2);

        // Neither without NAMES nor without room is there a last draw.
        FiveStars none = made(1, 0);
        z = seedFor(new int[] {3, 100}, 1, 0);
        none.seed(z);
        due("without NAMES", none.buy(1, 0), 0);
        due("two draws", none.count(7), drawn(z, 2));
        FiveStars full = made(1, 1);
        full.job(0, 12, 0, 1);
        full.job(0, 12, 0, 1);
        full.seed(z);
        due("without room", full.buy(1, 0), 0);
        due("two draws", full.count(7), drawn(z, 2));
        full.set(0, 1, 9999);
        full.buy(20, 0);
        due("9999 at most", full.thingTold(0, 1), 9999);
    }

    private static void jobs() {
        promise = 23;
        FiveStars x = made(2, 3);
        int[][] refused = {{2, 1, 0, 1}, {-1, 1, 0, 1}, {0, 0, 0, 1}, {0, 13, 0, 1}, {0, 1, -1, 1}, {0, 1, 1000, 1},
            {0, 1, 0, 0}, {0, 1, 0, 6}, {0, 2, 999, 1}, {0, 12, 989, 1}, {0, 1, MAX, 1}, {0, MAX, 0, 1}};
        for (int[] r : refused) {
            due("job(" + r[0] + ", " + r[1] + ", " + r[2] + ", " + r[3] + ")", x.job(r[0], r[1], r[2], r[3]), BAD);
        }
        x.word(0, 0, 15);
        due("job(1, 4, 996, 2)", x.job(1, 4, 996, 2), 1);
        for (int i = 0; i < 4; i++) {
            due("KIND", x.told(1 + i, 0), 2);
            due("THING", x.told(1 + i, 1), 1);
            due("NAME", x.told(1 + i, 2), i % 3);
            due("HOUR", x.told(1 + i, 3), 996 + i);
            due("STARS", x.told(1 + i, 4), 2);
        }
        due("names from 0 on again", x.job(0, 12, 988, 5), 5);
        due("NAME", x.told(5, 2), 0);
        due("no room", x.job(0, 8, 0, 5), FULL);
        due("none came", x.count(2), 17);
        due("just room", x.job(0, 7, 0, 5), 17);
        due("bad comes first", x.job(0, 7, 0, 6), BAD);
        due("without NAMES", made(1, 0).job(0, 1, 0, 1), NO);
        due("bad comes first", made(1, 0).job(0, 1, 0, 6), BAD);

        promise = 24;
        due("seed(5)", x.seed(5), 1);
        due("seed(MIN)", x.seed(MIN), 5);
        due("seed(NONE)", x.seed(NONE), MIN);
        due("count(7)", x.count(7), NONE);
    }

    // ---- 25 .. 29: texts

    private static void tapes() {
        promise = 25;
        FiveStars x = new FiveStars();
        for (int i = 1; i <= 8; i++) {
            due("feed", x.feed(0, 0, 0), 12 * i);
        }
        due("feed", x.feed(0, 0, 0), FULL);
        due("count(6)", x.count(6), 96);
        x.trim(85);
        due("97 bytes", x.feed(0, 0, 0), FULL);
        x.trim(84);
        due("96 bytes", x.feed(0, 0, 0), 96);
        x.trim(0);
        x.feed(0x73696767, 0x6e202020, 0x35202020);
        due("the highest byte first", x.text(), -100);
        x.feed(0x73686f77, 0x20286d2b, 0x77292a32);
        due("the highest byte first", x.text(), 0);
        due("NUMBERS and NAMES", x.textTold(0, 1), 3);

        promise = 26;
        x.feed(0, 0, 0);
        due("trim(13)", x.trim(13), BAD);
        due("trim(-1)", x.trim(-1), BAD);
        due("trim(12)", x.trim(12), 12);
        due("trim(5)", x.trim(5), 5);
        due("trim(6)", x.trim(6), BAD);
        due("trim(0)", x.trim(0), 0);
        due("count(6)", x.count(6), 0);
    }

    private static void texts() {
        promise = 27;
        FiveStars x = made(1, 1);
        dueLaw(x, "", -100);
        dueLaw(x, "   ", -103);
        dueLaw(x, "weigh", -105);
        dueLaw(x, "weigh  ", -107);
        dueLaw(x, "weighs 5", -100);
        dueLaw(x, "  weighs 5", -102);
        dueLaw(x, "weigha 5", -100);
        dueLaw(x, "weighz 5", -100);
        dueLaw(x, "weigh`5", -105);
        dueLaw(x, "weigh{5", -105);
        dueLaw(x, "WEIGH 5", -100);
        dueLaw(x, "weigh5", -105);
        dueLaw(x, "5 weigh", -100);
        dueLaw(x, "weigh 5s", -107);
        dueLaw(x, "weigh s5", -107);
        dueLaw(x, "weigh s s", -108);
        dueLaw(x, "weigh 12345", -106);
        dueLaw(x, "weigh 5 + 00001", -110);
        dueLaw(x, "weigh c", -106);
        dueLaw(x, "weigh m", -106);
        dueLaw(x, "sign w", -105);
        dueLaw(x, "show s", -105);
        dueLaw(x, "show mw", -105);
        dueLaw(x, "show m<w<c", -108);
        dueLaw(x, "show m<w=c", -108);
        dueLaw(x, "show (1<2<3)+0", -109);
        dueLaw(x, "show )", -105);
        dueLaw(x, "show m)", -106);
        dueLaw(x, "show ()", -106);
        dueLaw(x, "show (m", -107);
        dueLaw(x, "show (m c)", -108);
        dueLaw(x, "show -m", -105);
        dueLaw(x, "show m+", -107);
        dueLaw(x, "show m++w", -107);
        dueLaw(x, "show m!", -106);
        dueLaw(x, "show !", -106);
        dueLaw(x, "show m.w", -106);
        dueLaw(x, "show m\tw", -106);
        dueLaw(x, "show \u00ff", -105);
        dueLaw(x, "show \u0000", -105);
        dueLaw(x, "show " + "(".repeat(9) + "m" + ")".repeat(9), -113);
        dueLaw(x, "show " + "!".repeat(9) + "m", -113);
        dueLaw(x, "show " + "!(".repeat(9) + "m" + ")".repeat(9), -121);
        dueLaw(x, "show " + "(".repeat(8) + "m" + ")".repeat(9), -122);
        due("no TEXT yet", x.count(4), 0);
        due("the tape is used up", x.count(6), 0);
        dueLaw(x, "show " + "!(".repeat(8) + "m" + ")".repeat(8) + "+!(m)", 0);
        dueLaw(x, "show " + "!".repeat(8) + "m+" + "!".repeat(8) + "m", 1);
        dueLaw(x, "show " + "(".repeat(8) + "m" + ")".repeat(8) + "*((m))", 2);
        dueLaw(x, "show(m)", 3);
        dueLaw(x, "show!m", 4);
        dueLaw(x, "  show   m  <  0001 & w  ", 5);
        dueLaw(x, "show " + "m+".repeat(45) + "m", 6);
        due("leaves", x.textTold(6, 1), 46);
        for (int i = 7; i < 14; i++) {
            dueLaw(x, "sign h", i);
        }
        dueLaw(x, "sign h", FULL);
        due("used up by FULL too", x.count(6), 0);
        dueLaw(x, "sign m", -105);
        due("TEXTS", x.count(4), 14);

        promise = 28;
        due("KEY", x.textTold(0, 0), 2);
        due("KEY", x.textTold(13, 0), 1);
        due("NUMBERS and NAMES", x.textTold(5, 1), 3);
        due("text 14", x.textTold(14, 0), BAD);
        due("text -1", x.textTold(-1, 0), BAD);
        due("what 2", x.textTold(0, 2), BAD);
        due("what -1", x.textTold(0, -1), BAD);
        FiveStars weigh = new FiveStars();
        dueLaw(weigh, "weigh 1", 0);
        due("KEY", weigh.textTold(0, 0), 0);

        promise = 29;
        due("why(0)", x.why(0), NONE);
        due("why(1)", x.why(1), 13);
        due("why(2)", x.why(2), 6);
        due("why(3)", x.why(3), BAD);
        due("why(-1)", x.why(-1), BAD);
    }

    /** What an E is worth, seen as a SIGN (0 .. 9) of a WORD with 5 STARS in HOUR 12 by a NAME, BORN in 3, with 1. */
    private static void dueWorth(String e, int want) {
        FiveStars x = made(1, 0);
        x.name(3);
        x.word(0, 0, 125);
        dueLaw(x, "sign " + e, 0);
        due("SIGN by " + e, x.told(0, 7), want);
    }

    private static void worths() {
        promise = 27;
        dueWorth("s", 5);
        dueWorth("h", 9);
        dueWorth("h-4", 8);
        dueWorth("b", 3);
        dueWorth("c", 1);
        dueWorth("1+2*3", 7);
        dueWorth("(1+2)*3", 9);
        dueWorth("9-3-2", 4);
        dueWorth("9-(3-2)", 8);
        dueWorth("8/2/2", 2);
        dueWorth("7/2", 3);
        dueWorth("(0-7)/2+9", 6);
        dueWorth("5/0", 0);
        dueWorth("2*3/4", 1);
        dueWorth("1<2", 1);
        dueWorth("2<2", 0);
        dueWorth("2=2", 1);
        dueWorth("2>1", 1);
        dueWorth("1+1=2", 1);
        dueWorth("(1<2)<3", 1);
        dueWorth("5&6", 1);
        dueWorth("5&0", 0);
        dueWorth("0|7", 1);
        dueWorth("0|0", 0);
        dueWorth("1|0&0", 1);
        dueWorth("(1|0)&0", 0);
        dueWorth("2=3|1", 1);
        dueWorth("0=1&0", 0);
        dueWorth("!5", 0);
        dueWorth("!0", 1);
        dueWorth("!!5", 1);
        dueWorth("!0*7", 7);
        dueWorth("!0+4", 5);
        dueWorth("!(1=2)*6", 6);
        dueWorth("9999*9999*9999*9999>0", 9999 * 9999 * 9999 * 9999 > 0 ? 1 : 0);
        dueWorth("9999*9999*22<0", 9999 * 9999 * 22 < 0 ? 1 : 0);
        dueWorth("0007", 7);
    }

    // ---- 30 .. 38: sheets, slots

    private static void sheets() {
        promise = 30;
        FiveStars x = made(2, 2);
        due("24 places", x.sheet(0, 0, 24), 24);
        due("no places", x.sheet(1, 1, 0), 0);
        due("25 places", x.sheet(0, 0, 25), BAD);
        due("-1 places", x.sheet(0, 1, -1), SIZE);
        due("MIN places", x.sheet(0, 1, MIN), SIZE);
        due("sheet 4", x.sheet(4, 0, -1), BAD);
        due("sheet -1", x.sheet(-1, 0, 1), BAD);
        due("sort 2", x.sheet(0, 2, 1), BAD);
        due("sort -2", x.sheet(0, -2, -1), BAD);
        due("it is as it was", x.mark(0, 23, 9), 1);
        due("anew, all 0", x.sheet(0, 0, 24), 24);
        x.lay(0, 2, 0);
        due("all 0", x.item(0, 23), 0);
        due("MISSING, n any", x.sheet(0, -1, 99), 0);
        due("MISSING, n any", x.sheet(0, -1, -99), 0);
        due("MISSING", x.mark(0, 0, 1), NOTHING);

        promise = 31;
        x.sheet(0, 0, 2);
        x.sheet(1, 1, 2);
        x.sheet(2, -1, 0);
        due("sheet 4", x.mark(4, 0, 1), BAD);
        due("sheet -1", x.mark(-1, 0, 1), BAD);
        due("MISSING", x.mark(2, 9, 1), NOTHING);
        due("place 2", x.mark(0, 2, NONE), INDEX);
        due("place -1", x.mark(1, -1, 100000), INDEX);
        due("NO NUMBER in shorts", x.mark(0, 0, NONE), KIND);
        due("100000 in floats", x.mark(1, 0, 100000), BAD);
        due("-100000 in floats", x.mark(1, 0, -100000), BAD);
        due("MIN in floats", x.mark(1, 0, MIN), BAD);
        due("shorts", x.mark(0, 0, 32768), 1);
        due("shorts", x.mark(0, 1, -32769), 1);
        x.lay(0, 2, 0);
        due("the lowest 16 bits", x.item(0, 0), -32768);
        due("the lowest 16 bits", x.item(0, 1), 32767);
        due("floats", x.mark(1, 0, 99999), 1);
        due("floats", x.mark(1, 1, -99999), 1);
        x.lay(1, 2, 1);
        due("floats", x.item(1, 0), 99999);
        due("floats", x.item(1, 1), -99999);
        due("NO NUMBER", x.mark(1, 1, NONE), 1);
        x.lay(1, 2, 1);
        due("NO NUMBER", x.item(1, 1), KIND);
    }

    private static void pours() {
        promise = 32;
        FiveStars x = made(2, 2);
        x.sheet(0, 1, 4);
        x.mark(0, 0, 9995);
        x.mark(0, 1, 1);
        due("up to 0", x.pour(0, 101), 2);
        due("THING", x.told(0, 1), 1);
        due("NAME", x.told(0, 2), 1);
        due("HOUR", x.told(0, 3), 999);
        due("STARS", x.told(0, 4), 5);
        due("KIND", x.told(1, 0), 0);
        x.mark(0, 1, NONE);
        x.mark(0, 2, 15);
        due("up to NO NUMBER", x.pour(0, 0), 1);
        for (int stop : new int[] {10001, 16, 10, -5, 99991, 9996}) {
            x.mark(0, 0, stop);
            due("up to " + stop, x.pour(0, 0), 0);
        }
        due("sheet 4", x.pour(4, 0), BAD);
        due("sheet -1", x.pour(-1, 0), BAD);
        due("thing 2", x.pour(1, 200), BAD);
        due("name 2", x.pour(1, 2), BAD);
        due("of -1", x.pour(0, -1), BAD);
        due("of MIN", x.pour(0, MIN), BAD);
        due("MISSING", x.pour(1, 0), NOTHING);
        x.clean(0);
        x.sheet(1, 0, 24);
        for (int i = 0; i < 24; i++) {
            x.mark(1, i, 10 * i + 5);
        }
        x.word(0, 0, 15);
        due("no room", x.pour(1, 0), FULL);
        due("none came", x.count(2), 1);
        x.drop(0);
        due("just room", x.pour(1, 0), 24);
        x.sheet(1, 0, 0);
        due("nothing has room", x.pour(1, 0), 0);

        promise = 33;
        x = made(2, 1);
        x.word(0, 0, 13);
        x.word(0, 0, 14);
        x.sheet(0, 0, 2);
        due("first", x.reads(0), 0);
        x.mark(0, 0, 350);
        due("0 for NONE", x.reads(0), NONE);
        x.mark(0, 1, 1);
        due("second", x.reads(0), 1);
        x.sheet(1, 1, 4);
        x.mark(1, 0, NONE);
        due("beyond the last THING", x.reads(1), 2);
        x.mark(1, 2, NONE);
        due("numbers alone", x.reads(1), 3);
        x.mark(1, 3, NONE);
        due("none", x.reads(1), NONE);
        x.sheet(1, 1, 0);
        due("no places", x.reads(1), NONE);
        due("MISSING", x.reads(2), NOTHING);
        due("sheet 4", x.reads(4), BAD);
        due("sheet -1", x.reads(-1), BAD);
    }

    private static void copies() {
        promise = 34;
        FiveStars x = new FiveStars();
        x.sheet(0, 0, 4);
        x.sheet(1, 0, 2);
        x.sheet(2, 1, 4);
        for (int i = 0; i < 4; i++) {
            x.mark(0, i, i + 1);
        }
        due("from 4", x.copy(4, 0, 0, 0, 1), BAD);
        due("from -1", x.copy(-1, 0, 0, 0, 1), BAD);
        due("to 4", x.copy(0, 0, 4, 0, 1), BAD);
        due("to -1", x.copy(3, 0, -1, 0, 1), BAD);
        due("from MISSING", x.copy(3, 0, 0, 0, 1), NOTHING);
        due("to MISSING", x.copy(0, 9, 3, 0, 1), NOTHING);
        due("of two sorts", x.copy(0, 9, 2, 0, 1), KIND);
        int[][] refused = {{-1, 0, 1}, {0, -1, 1}, {4, 0, 1}, {0, 2, 1}, {0, 0, 3}, {3, 0, 2}, {5, 0, 0}, {0, 3, 0},
            {0, 0, -1}, {MAX, 0, 1}, {0, MAX, 1}, {1, 1, MAX}, {MIN, 0, 0}, {0, 0, MIN}};
        for (int[] r : refused) {
            due("copy(0, " + r[0] + ", 1, " + r[1] + ", " + r[2] + ")", x.copy(0, r[0], 1, r[1], r[2]), INDEX);
        }
        due("nothing, at the ends", x.copy(0, 4, 1, 2, 0), 0);
        due("two", x.copy(0, 2, 1, 0, 2), 2);
        x.lay(0, 2, 1);
        due("first", x.item(0, 0), 3);
        due("second", x.item(0, 1), 4);
        due("upwards within one", x.copy(0, 0, 0, 1, 3), 3);
        dueRow(x, 0, 1, 1, 2, 3);
        due("downwards within one", x.copy(0, 1, 0, 0, 3), 3);
        dueRow(x, 0, 1, 2, 3, 3);
        x.mark(2, 0, NONE);
        due("NO NUMBER too", x.copy(2, 0, 2, 3, 1), 1);
        x.lay(0, 2, 2);
        due("NO NUMBER too", x.item(0, 3), KIND);
    }

    private static void slots() {
        promise = 35;
        FiveStars x = made(1, 1);
        x.word(4, 0, 15);
        x.sheet(0, 0, 1);
        due("a WORD", x.lay(4, 1, 0), 0);
        due("a SHEET", x.lay(4, 2, 0), 1);
        due("a number", x.lay(4, 3, MIN), 2);
        due("nothing", x.lay(4, 0, 99), 3);
        due("nothing", x.lay(4, 0, -99), 0);
        due("slot 5", x.lay(5, 0, 0), BAD);
        due("slot -1", x.lay(-1, 0, 0), BAD);
        due("thing 4", x.lay(0, 4, 0), BAD);
        due("thing -1", x.lay(0, -1, 0), BAD);
        due("word 1", x.lay(0, 1, 1), BAD);
        due("word -1", x.lay(0, 1, -1), BAD);
        due("sheet 4", x.lay(0, 2, 4), BAD);
        due("sheet -1", x.lay(0, 2, -1), BAD);
        due("a SHEET that is MISSING", x.lay(0, 2, 1), NOTHING);
        due("it holds what it held", x.lay(0, 3, 5), 0);

        promise = 36;
        x.lay(1, 1, 0);
        x.lay(2, 2, 0);
        int[] says = {55, KIND, 55, KIND, 55, KIND};
        for (int kind = 0; kind < 6; kind++) {
            due("ask(1, " + kind + ")", x.ask(1, kind), says[kind]);
        }
        x.star(0, 1);
        x.turns(0, 0);
        due("as it was then", x.ask(1, 4), 55);
        x.drop(0);
        due("for good", x.ask(1, 4), 55);
        due("slot 5", x.ask(5, 0), BAD);
        due("slot -1", x.ask(-1, 0), BAD);
        due("kind 6", x.ask(3, 6), BAD);
        due("kind -1", x.ask(3, -1), BAD);
        due("nothing", x.ask(3, 0), NOTHING);
        due("a SHEET", x.ask(2, 0), KIND);
        due("a number", x.ask(0, 0), KIND);

        promise = 37;
        x.mark(0, 0, 7);
        due("as it was then", x.item(2, 0), 0);
        x.lay(3, 2, 0);
        x.sheet(0, -1, 0);
        due("a row of its own", x.item(3, 0), 7);
        due("place 1", x.item(3, 1), INDEX);
        due("place -1", x.item(3, -1), INDEX);
        due("a number", x.item(0, 9), KIND);
        due("a WORD", x.item(1, 9), KIND);
        due("nothing", x.item(4, 9), NOTHING);
        due("slot 5", x.item(5, 0), BAD);
        due("slot -1", x.item(-1, 0), BAD);

        promise = 38;
        x.lay(0, 3, -17);
        due("by 5", x.rest(0, 5), -2);
        due("by -5", x.rest(0, -5), -2);
        due("by 0", x.rest(0, 0), NO);
        x.lay(0, 3, MIN);
        due("MIN by -1", x.rest(0, -1), 0);
        due("a WORD", x.rest(1, 0), KIND);
        due("a SHEET", x.rest(2, 0), KIND);
        due("nothing", x.rest(4, 0), NOTHING);
        due("slot 5", x.rest(5, 0), BAD);
        due("slot -1", x.rest(-1, 1), BAD);
    }

    // ---- 39 .. 43: rows, images

    private static void rows() {
        promise = 39;
        FiveStars x = made(2, 1);
        for (int i = 1; i <= 60; i++) {
            due("tell", x.tell(i), i);
        }
        due("the 61st", x.tell(0), FULL);
        due("count(5)", x.count(5), 60);

        promise = 40;
        due("no IMAGE", x.check(1, 0), NO);
        due("none wait then", x.count(5), 0);
        for (int[] bad : new int[][] {{0, 0}, {31, 0}, {-1, 0}, {1, -1}, {1, 1000}}) {
            x.tell(1);
            due("check(" + bad[0] + ", " + bad[1] + ")", x.check(bad[0], bad[1]), BAD);
            due("none wait then", x.count(5), 0);
        }
        FiveStars empty = new FiveStars();
        empty.keep();
        empty.thing(5);
        due("no THINGS in THE IMAGE", empty.check(1, 0), NO);

        // Two who come by THE IMAGE: THING 1, with 3 stars (w 50); then the same one, of which nothing is written.
        int z = seedFor(new int[] {3, 2, 100, 1, 3, 100}, 0, 1, 49, -1, 1, 99);
        x.seed(z);
        x.keep();
        x.seed(1);
        x.set(1, 0, 100);
        int[] due = {1, 3, 1, 0};
        due("as told", told(x, due, 2), 0);
        due("again and again", told(x, due, 2), 0);
        due("one too many", told(x, new int[] {1, 3, 1, 0, 0}, 2), 5);
        due("one is missing", told(x, new int[] {1, 3, 1}, 2), 4);
        due("all are missing", told(x, new int[0], 2), 1);
        due("the first is not", told(x, new int[] {0, 3, 1, 0}, 2), 1);
        due("the second is not", told(x, new int[] {1, 4, 0, 0}, 2), 2);
        due("the third is not", told(x, new int[] {1, 3, 0, 0}, 2), 3);
        due("the fourth is not", told(x, new int[] {1, 3, 1, 1}, 2), 4);
        due("z is as it was", x.count(7), 1);
        due("no WORDS came", x.count(2), 0);
        due("BUYERS are as they were", x.thingTold(1, 1), 0);
        x.back();
        due("THE IMAGE is as it was", x.count(2), 0);
        due("they come in fact", x.buy(2, 7), 1);
        due("THING", x.told(0, 1), 1);
    }

    private static int told(FiveStars x, int[] row, int n) {
        for (int v : row) {
            x.tell(v);
        }
        return x.check(n, 7);
    }

    private static void images() {
        promise = 41;
        FiveStars x = made(2, 2);
        law(x, "weigh 5");
        x.word(0, 101, 15);
        x.word(0, 0, 25);
        x.seed(77);
        due("keep()", x.keep(), 2);

        promise = 42;
        x.thing(1);
        x.name(1);
        x.set(0, 0, 1);
        x.set(1, 1, 1);
        x.turns(0, 2);
        x.star(0, 1);
        x.drop(1);
        x.seed(1);
        law(x, "weigh 1");
        law(x, "sign 1");
        x.sheet(0, 0, 3);
        x.lay(0, 3, 3);
        x.tell(3);
        x.feed(0, 0, 0);
        for (int again = 0; again < 2; again++) {
            due("back()", x.back(), 2);
            due("THINGS", x.count(0), 2);
            due("NAMES", x.count(1), 2);
            due("WORDS", x.count(2), 2);
            due("TEXTS", x.count(4), 1);
            due("z", x.count(7), 77);
            due("w", x.thingTold(0, 0), 50);
            due("BUYERS", x.thingTold(1, 1), 0);
            due("KIND", x.told(0, 0), 0);
            due("STARS", x.told(0, 4), 5);
            due("HOUR", x.told(1, 3), 2);
            due("BORN", x.nameTold(1, 0), 10);
            due("why(0)", x.why(0), 0);
            due("why(1)", x.why(1), NONE);
            due("WEIGHT", x.told(0, 5), 5);
            due("SHEETS stay", x.sheet(0, 0, 3), 3);
            due("SLOTS stay", x.rest(0, 2), 1);
            due("numbers wait", x.count(5), 1);
            due("THE TAPE stays", x.count(6), 12);
            x.clean(0);
            x.buy(20, 5);
            x.set(0, 0, 99);
        }
        x.back();
        x.drop(0);
        due("another IMAGE", x.keep(), 1);
        x.drop(0);
        due("back() to it", x.back(), 1);
        due("no IMAGE", new FiveStars().back(), NO);

        promise = 43;
        x = made(3, 2);
        x.job(0, 4, 0, 1);
        x.word(0, 0, 15);
        x.word(3, 0, 15);
        x.word(5, 0, 15);
        law(x, "sign 1");
        x.tell(0);
        x.feed(0, 0, 0);
        x.trim(7);
        int[] counts = {3, 2, 7, 2, 1, 1, 7, 1};
        for (int what = 0; what < 8; what++) {
            due("count(" + what + ")", x.count(what), counts[what]);
        }
        due("count(8)", x.count(8), BAD);
        due("count(-1)", x.count(-1), BAD);
        due("count(MIN)", x.count(MIN), BAD);
    }

    public static void main(String[] args) {
        newObject();
        things();
        names();
        words();
        told();
        kinds();
        means();
        groups();
        waves();
        signs();
        buyers();
        jobs();
        tapes();
        texts();
        worths();
        sheets();
        pours();
        copies();
        slots();
        rows();
        images();
        end();
    }
}
