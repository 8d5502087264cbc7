/** Promises 22 to 24, and part 3 of the terms. */
final class EdgesOfBuyers extends Hand {
    private static final int DRAWN = 0, SHELF = 1;

    static void all() {
        buy();
        draws();
        bought();
        buyersAtMost();
        offAndWrites();
        starsByWorth();
        byName();
        noNamesNoRoom();
        shelfAsItIs();
        job();
        jobRounds();
        jobRoom();
        seed();
    }

    // ---- 22

    private static void buy() {
        edge(22, "n (1 .. 20) BUYERS come in an HOUR, one behind the other: how many wrote. BAD; NO: there are no THINGS.");
        FiveStars x = made(1, 0);
        range("buy(n, 0)", 1, 0, 20, 0, v -> x.buy(v, 0));
        due("1 and 20 came, no other", x.thingTold(0, 1), 21);
        range("buy(1, hour)", 0, 0, 999, 0, v -> made(1, 0).buy(1, v));
        due("no THINGS", made(0, 12).buy(1, 0), NO);
        due("no THINGS", made(0, 12).buy(20, 999), NO);
        due("BAD stands ahead of NO", new FiveStars().buy(21, 0), BAD);
        due("BAD stands ahead of NO", new FiveStars().buy(0, 0), BAD);
        due("BAD stands ahead of NO", new FiveStars().buy(1, 1000), BAD);
        FiveStars none = new FiveStars();
        none.buy(1, 0);
        due("NO draws nothing", none.count(7), 1);
    }

    private static void draws() {
        edge(22, "A draw: z becomes z * 1103515245 + 12345 (an int); it gives z >>> 8");
        for (int z : new int[] {0, 1, -1, MAX, MIN, 1 << 30, -12345, 99999999, NONE}) {
            // Each time two draws, or three where the THING is drawn: without NAMES nothing more.
            FiveStars x = made(1, 0);
            x.seed(z);
            x.buy(1, 0);
            due("z behind a BUYER from " + z, x.count(7), drawn(z, given(z, 1) % 3 == 0 ? 3 : 2));
        }
        // The first draw leaves a z below 0 whose rest by 3 is 0 only if it is shifted without its sign.
        int wraps = 0;
        for (int z = 0; z < 4000; z++) {
            int first = drawn(z, 1);
            if (first < 0 && (first >>> 8) % 3 == 0 && (first >> 8) % 3 != 0 && given(z, 2) % 6 == 5) {
                FiveStars x = made(6, 0);
                x.seed(z);
                x.buy(1, 0);
                due("the drawn THING from " + z, x.thingTold(5, 1), 1);
                wraps++;
            }
        }
        due("there are such", wraps > 0 ? 1 : 0, 1);
    }

    /** A seed for one BUYER, who buys a drawn THING or THE SHELF's first, and then draws what he writes by. */
    private static int seedOf(int way, int things, int thing, int writes) {
        return way == SHELF ? seedFor(new int[] {3, 100}, 1, writes) : seedFor(new int[] {3, things, 100}, 0, thing, writes);
    }

    private static void bought() {
        edge(22, "A BUYER comes (in an HOUR that is told): buys: if the rest of a draw by 3 is 0 the THING of a draw's rest"
            + " by how many THINGS there are, else the first one of THE SHELF");
        for (int things = 1; things <= 6; things++) {
            for (int thing = 0; thing < things; thing++) {
                FiveStars x = made(things, 0);
                x.seed(seedOf(DRAWN, things, thing, 0));
                x.buy(1, 0);
                for (int i = 0; i < things; i++) {
                    due("BUYERS of " + i + ", drawn is " + thing, x.thingTold(i, 1), i == thing ? 1 : 0);
                }
            }
        }
        for (int rest = 1; rest <= 2; rest++) {
            FiveStars x = made(6, 1);
            x.word(0, 500, 11);
            x.seed(seedFor(new int[] {3, 6, 100}, rest, 0, 99));
            x.buy(1, 0);
            due("BUYERS of the first one by rest " + rest, x.thingTold(5, 1), 1);
            due("BUYERS of another", x.thingTold(0, 1), 0);
        }
    }

    private static void buyersAtMost() {
        edge(22, "its BUYERS are one more (9999 at most)");
        for (int had : new int[] {0, 9997, 9998, 9999}) {
            FiveStars x = made(1, 0);
            x.set(0, 1, had);
            x.buy(1, 0);
            due("one more than " + had, x.thingTold(0, 1), had == 9999 ? 9999 : had + 1);
        }
        FiveStars x = made(1, 0);
        x.set(0, 1, 9990);
        x.buy(20, 0);
        due("20 more than 9990", x.thingTold(0, 1), 9999);
    }

    /** Whether one writes of the only THING, of w and with a WORD of so many STARS (0: none), if rest is drawn. */
    private static int writes(int w, int[] stars, int rest) {
        FiveStars x = made(1, 1);
        x.set(0, 0, w);
        for (int v : stars) {
            x.word(0, 0, 10 + v);
        }
        x.seed(seedOf(SHELF, 1, 0, rest));
        int wrote = x.buy(1, 0);
        due("WORDS of w " + w, x.count(2), stars.length + wrote);
        return wrote;
    }

    private static void dueOff(int w, int off, int... stars) {
        if (off > 0) {
            due("w " + w + ", rest " + (off - 1), writes(w, stars, off - 1), 1);
            due("w " + w + ", rest 0", writes(w, stars, 0), 1);
        }
        if (off < 100) {
            due("w " + w + ", rest " + off, writes(w, stars, off), 0);
            due("w " + w + ", rest 99", writes(w, stars, 99), 0);
        }
    }

    private static void offAndWrites() {
        edge(22, "OFF is by how much w and MEAN / 5 differ (50 without MEAN), its sign left out;"
            + " he writes, if the rest of a draw by 100 is below OFF");
        dueOff(0, 50);
        dueOff(50, 50);
        dueOff(100, 50);
        dueOff(100, 0, 5);
        dueOff(99, 1, 5);
        dueOff(0, 100, 5);
        dueOff(1, 99, 5);
        dueOff(20, 0, 1);
        dueOff(21, 1, 1);
        dueOff(19, 1, 1);
        dueOff(0, 20, 1);
        dueOff(100, 80, 1);

        edge(22, "All numbers are whole; / cuts towards 0.");
        // MEAN 133, by 5: 26. MEAN 366, by 5: 73.
        dueOff(26, 0, 1, 1, 2);
        dueOff(27, 1, 1, 1, 2);
        dueOff(73, 0, 4, 4, 3);
        dueOff(74, 1, 4, 4, 3);
    }

    private static void starsByWorth() {
        edge(22, "a WORD (KIND BOUGHT), its STARS w / 20 and 1 (5 at most)");
        int[] worths = {0, 1, 19, 20, 39, 40, 59, 60, 79, 80, 99, 100};
        int[] stars = {1, 1, 1, 2, 2, 3, 3, 4, 4, 5, 5, 5};
        for (int i = 0; i < worths.length; i++) {
            FiveStars x = made(1, 1);
            x.set(0, 0, worths[i]);
            x.seed(seedOf(SHELF, 1, 0, 0));
            due("one writes", x.buy(1, 999), 1);
            due("STARS by w " + worths[i], x.told(0, 4), stars[i]);
            due("KIND", x.told(0, 0), 1);
            due("HOUR", x.told(0, 3), 999);
        }
    }

    private static void byName() {
        edge(22, "by the NAME of one more draw's rest by how many NAMES there are, in that HOUR");
        for (int names : new int[] {1, 2, 12}) {
            for (int name : new int[] {0, names - 1}) {
                FiveStars x = made(1, names);
                int z = seedFor(new int[] {3, 100, names}, 1, 0, name);
                x.seed(z);
                x.buy(1, 0);
                due("NAME of " + names, x.told(0, 2), name);
                due("HOUR", x.told(0, 3), 0);
                due("three draws", x.count(7), drawn(z, 3));
            }
        }
    }

    private static void noNamesNoRoom() {
        edge(22, "(nothing, if there are no NAMES, or no room: then without that draw)");
        int z = seedOf(SHELF, 1, 0, 0);
        FiveStars none = made(1, 0);
        none.seed(z);
        due("no NAMES", none.buy(1, 0), 0);
        due("two draws", none.count(7), drawn(z, 2));
        due("BUYERS all the same", none.thingTold(0, 1), 1);
        FiveStars full = spoken(1, 1, 24);
        full.set(0, 0, 0);
        full.seed(z);
        due("no room", full.buy(1, 0), 0);
        due("two draws", full.count(7), drawn(z, 2));
        due("BUYERS all the same", full.thingTold(0, 1), 1);
        FiveStars last = spoken(1, 1, 23);
        last.set(0, 0, 0);
        last.seed(z);
        due("room for one", last.buy(1, 0), 1);
        due("three draws", last.count(7), drawn(z, 3));
        last.drop(23);
        last.seed(z);
        due("the first of 20 alone has room", last.buy(20, 0), 1);
        due("WORDS", last.count(2), 24);
        due("all 20 bought", last.thingTold(0, 1), 21);
    }

    private static void shelfAsItIs() {
        edge(22, "else the first one of THE SHELF (as it is then)");
        // The first BUYER writes of THING 0 (w 100: 5 STARS); the second finds it first, not THING 1 with its 4.
        FiveStars x = made(2, 1);
        x.set(0, 0, 100);
        x.word(0, 100, 14);
        x.seed(seedFor(new int[] {3, 2, 100, 1, 3, 100}, 0, 0, 0, -1, 1, 99));
        due("one writes", x.buy(2, 0), 1);
        due("BUYERS of 0", x.thingTold(0, 1), 2);
        due("BUYERS of 1", x.thingTold(1, 1), 0);
        FiveStars law = made(2, 1);
        law(law, "show 0-c");
        law.word(0, 0, 14);
        law.seed(seedOf(SHELF, 2, 0, 99));
        law.buy(1, 0);
        due("BUYERS of the first by show", law.thingTold(1, 1), 1);
    }

    // ---- 23

    private static void job() {
        edge(23, "A JOB of n (1 .. 12) WORDS from an HOUR on (the last one not behind 999): the number of the first.");
        range("job(0, n, 0, 1)", 1, 0, 12, 0, v -> made(1, 1).job(0, v, 0, 1));
        range("job(0, 1, hour, 1)", 0, 0, 999, 0, v -> made(1, 1).job(0, 1, v, 1));
        range("job(0, 2, hour, 1)", 0, 0, 998, 0, v -> made(1, 1).job(0, 2, v, 1));
        range("job(0, 12, hour, 1)", 0, 0, 988, 0, v -> made(1, 1).job(0, 12, v, 1));
        range("job(0, n, 999, 1)", 1, 0, 1, 0, v -> made(1, 1).job(0, v, 999, 1));
        range("job(0, n, 995, 1)", 1, 0, 5, 0, v -> made(1, 1).job(0, v, 995, 1));
        range("job(thing, 1, 0, 1)", 0, 0, 5, 0, v -> made(6, 1).job(v, 1, 0, 1));
        range("job(thing, 1, 0, 1) of one", 0, 0, 0, 0, v -> made(1, 1).job(v, 1, 0, 1));
        due("no THINGS", made(0, 1).job(0, 1, 0, 1), BAD);

        edge(23, "with STARS 1 .. 5");
        range("job(0, 1, 0, stars)", 1, 0, 5, 0, v -> made(1, 1).job(0, 1, 0, v));
    }

    private static void jobRounds() {
        edge(23, "A JOB: n WORDS (KIND PAID) of a THING with so many STARS, by NAMES from 0 on, round and round,"
            + " in HOURS one behind the other");
        for (int names : new int[] {1, 2, 5, 11, 12}) {
            FiveStars x = made(2, names);
            due("job", x.job(1, 12, 988, 4), 0);
            for (int i = 0; i < 12; i++) {
                int[] told = {2, 1, i % names, 988 + i, 4};
                for (int what = 0; what < 5; what++) {
                    due("told(" + i + ", " + what + ")", x.told(i, what), told[what]);
                }
            }
            due("from 0 on again", x.job(0, 1, 0, 1), 12);
            due("NAME", x.told(12, 2), 0);
        }
    }

    private static void jobRoom() {
        edge(23, "BAD; NO: there are no NAMES; FULL: they have no room (none comes then).");
        due("just room", spoken(1, 1, 12).job(0, 12, 0, 1), 12);
        FiveStars x = spoken(1, 1, 13);
        due("one too many", x.job(0, 12, 0, 1), FULL);
        due("none came", x.count(2), 13);
        due("eleven", x.job(0, 11, 0, 1), 13);
        due("full", x.job(0, 1, 0, 1), FULL);
        due("none came", x.count(2), 24);
        due("the last room", spoken(1, 1, 23).job(0, 1, 0, 1), 23);
        due("no NAMES", made(1, 0).job(0, 1, 0, 1), NO);
        due("BAD stands ahead of NO", made(1, 0).job(0, 13, 0, 1), BAD);
        due("BAD stands ahead of NO", made(1, 0).job(1, 1, 0, 1), BAD);
        due("BAD stands ahead of NO", made(1, 0).job(0, 2, 999, 1), BAD);
        due("BAD stands ahead of FULL", x.job(0, 2, 999, 1), BAD);
        due("BAD stands ahead of FULL", x.job(0, 1, 0, 6), BAD);
    }

    // ---- 24

    private static void seed() {
        edge(24, "z becomes v: what it was.");
        FiveStars x = new FiveStars();
        int was = 1;
        for (int v : new int[] {0, -1, MAX, MIN, BAD, NONE, 1}) {
            due("seed(" + v + ")", x.seed(v), was);
            due("count(7)", x.count(7), v);
            was = v;
        }
    }
}
