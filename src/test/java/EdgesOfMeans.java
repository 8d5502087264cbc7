/** Promises 13 to 21, and part 2 of the terms. */
final class EdgesOfMeans extends Hand {
    static void all() {
        mean();
        weighed();
        span();
        starsWorth();
        shelf();
        shelfByLaw();
        alike();
        group();
        wave();
        waveEnds();
        changed();
        off();
        bound();
        clean();
    }

    /** One THING with WORDS of KIND 0 in HOUR 1 with these STARS. */
    private static FiveStars starred(int... stars) {
        FiveStars x = made(1, 1);
        for (int v : stars) {
            x.word(0, 0, 10 + v);
        }
        return x;
    }

    // ---- 13

    private static void mean() {
        edge(13, "Of a THING: what 0 MEAN, 1 WEIGHED, 2 GOOD, 3 SPAN's low, 4 SPAN's high, 5 a STAR's worth. BAD; NONE.");
        range("mean(0, what)", 0, 500, 5, 0, v -> spoken(1, 1, 1).mean(0, v));
        range("mean(thing, 5) of one", 0, 500, 0, 500, v -> made(1, 0).mean(v, 5));
        range("mean(thing, 0) of six", 0, 500, 5, NONE, v -> spoken(6, 1, 1).mean(v, 0));
        due("BAD stands ahead of NONE", made(1, 0).mean(0, 6), BAD);

        edge(13, "MEAN of a THING: 100 times all STARS of its WORDS, together, by how many they are (NONE without any)");
        due("without any", made(1, 1).mean(0, 0), NONE);
        due("of another THING", spoken(2, 1, 24).mean(1, 0), NONE);
        due("the least", starred(1).mean(0, 0), 100);
        due("the most", starred(5).mean(0, 0), 500);
        due("24 of the most", spoken(1, 1, 24).mean(0, 0), 500);
        due("of all KINDS", paid(4, 0).mean(0, 0), 250);

        edge(13, "All numbers are whole; / cuts towards 0.");
        due("133 and a third", starred(1, 1, 2).mean(0, 0), 133);
        due("166 and two thirds", starred(1, 2, 2).mean(0, 0), 166);
        due("499 less a bit", starred(5, 5, 5, 5, 5, 4).mean(0, 0), 483);
    }

    /** A WORD with 4 STARS and one of a KIND with 1, in an odd HOUR. */
    private static FiveStars paid(int kind, int thing) {
        FiveStars x = made(2, 1);
        x.word(0, 100 * thing, 14);
        x.word(kind, 100 * thing, 11);
        return x;
    }

    private static void weighed() {
        edge(13, "WEIGHED: 100 times all WEIGHTS times STARS, by all WEIGHTS (NONE, if these are 0)");
        due("without WORDS", made(1, 1).mean(0, 1), NONE);
        FiveStars zero = made(1, 1);
        zero.word(5, 0, 15);
        zero.word(4, 0, 15);
        due("all WEIGHTS are 0", zero.mean(0, 1), NONE);
        zero.word(2, 0, 12);
        due("one that is not", zero.mean(0, 1), 200);
        due("(2 * 4 + 3 * 1) / 5", paid(1, 0).mean(0, 1), 220);
        due("(2 * 4 + 1 * 1) / 3", paid(2, 1).mean(1, 1), 300);
        FiveStars cut = starred(1, 1, 2);
        due("cut", cut.mean(0, 1), 133);
        law(cut, "weigh 0");
        due("by a law of 0", cut.mean(0, 1), NONE);
        law(cut, "weigh s-1");
        due("by a law that leaves one", cut.mean(0, 1), 200);
        FiveStars most = made(1, 1);
        law(most, "weigh 9");
        for (int i = 0; i < 24; i++) {
            most.word(1, 0, 15);
        }
        due("the most WEIGHTS", most.mean(0, 1), 500);

        edge(13, "GOOD: all WEIGHTS times what they SAY, by all WEIGHTS (NONE likewise)");
        due("without WORDS", made(1, 1).mean(0, 2), NONE);
        due("the most WEIGHTS", most.mean(0, 2), 100);
        zero.drop(2);
        due("all WEIGHTS are 0", zero.mean(0, 2), NONE);
        FiveStars nothing = made(1, 1);
        nothing.word(3, 0, 11);
        due("0 is not NONE", nothing.mean(0, 2), 0);
        due("(2 * 80 + 3 * 20) / 5", paid(1, 0).mean(0, 2), 44);
        due("(2 * 80 + 1 * 50) / 3", paid(2, 0).mean(0, 2), 70);
        due("cut: (2 * 80 + 1 * 0) / 3", paid(3, 0).mean(0, 2), 53);
    }

    private static void dueSpan(FiveStars x, int buyers, int low, int high) {
        x.set(0, 1, buyers);
        due("low by " + buyers, x.mean(0, 3), low);
        due("high by " + buyers, x.mean(0, 4), high);
    }

    private static void span() {
        edge(13, "by BUYERS or its WORDS, whichever are more (NONE, if both are 0)");
        FiveStars none = made(1, 1);
        dueSpan(none, 0, NONE, NONE);
        dueSpan(none, 1, 0, 100);
        dueSpan(none, 9999, 0, 100);
        FiveStars three = starred(5, 1, 3);
        dueSpan(three, 0, 60, 60);
        dueSpan(three, 2, 60, 60);
        dueSpan(three, 3, 60, 60);
        FiveStars worst = made(1, 1);
        worst.word(5, 0, 15);
        dueSpan(worst, 0, 0, 0);
        dueSpan(worst, 1, 0, 0);

        edge(13, "SPAN: what its WORDS SAY, together (low)");
        FiveStars each = made(1, 1);
        for (int kind = 0; kind < 6; kind++) {
            each.word(kind, 0, 11);
        }
        dueSpan(each, 6, 221 / 6, 221 / 6);
        dueSpan(each, 7, 221 / 7, 321 / 7);

        edge(13, "and 100 for each of BUYERS who are more than its WORDS (high)");
        dueSpan(three, 4, 45, 70);
        dueSpan(three, 5, 36, 76);
        dueSpan(three, 7, 25, 82);
        dueSpan(worst, 2, 0, 50);
        dueSpan(worst, 9999, 0, 99);
        FiveStars full = spoken(2, 1, 24);
        dueSpan(full, 24, 100, 100);
        dueSpan(full, 25, 96, 100);
        due("the other THING", full.mean(1, 4), NONE);
    }

    private static void starsWorth() {
        edge(13, "A STAR's worth: by how much MEAN would be more, if one more WORD had 5 STARS (500, if there is none)");
        due("none", made(1, 1).mean(0, 5), 500);
        due("none of it", spoken(2, 1, 24).mean(1, 5), 500);
        due("all have 5", spoken(1, 1, 1).mean(0, 5), 0);
        due("24 have 5", spoken(1, 1, 24).mean(0, 5), 0);
        due("one with 1", starred(1).mean(0, 5), 200);
        due("cut on both sides: 475 less 466", starred(5, 5, 4).mean(0, 5), 9);
        FiveStars full = made(1, 1);
        for (int i = 0; i < 24; i++) {
            full.word(0, 0, 11);
        }
        due("there is no room, but it is asked what would be", full.mean(0, 5), 16);
        due("no WORD came", full.count(2), 24);
    }

    // ---- 14

    private static void shelf() {
        edge(14, "The THING at a place of THE SHELF. BAD: below 0; NONE.");
        FiveStars none = new FiveStars();
        due("no THINGS", none.shelf(0), NONE);
        due("below 0", none.shelf(-1), BAD);
        due("MIN", none.shelf(MIN), BAD);
        FiveStars one = made(1, 0);
        due("the first", one.shelf(0), 0);
        due("beyond it", one.shelf(1), NONE);
        FiveStars six = made(6, 1);
        due("the last", six.shelf(5), 5);
        due("beyond the last", six.shelf(6), NONE);
        due("MAX", six.shelf(MAX), NONE);
        due("below 0", six.shelf(-1), BAD);
        due("MIN", six.shelf(MIN), BAD);

        edge(14, "the greatest first, of like ones by numbers");
        dueShelf(six, 0, 1, 2, 3, 4, 5);
        six.word(0, 500, 11);
        six.word(0, 300, 11);
        dueShelf(six, 3, 5, 0, 1, 2, 4);
        six.word(0, 400, 12);
        dueShelf(six, 4, 3, 5, 0, 1, 2);

        edge(14, "(without a TEXT: MEAN, 0 for NONE)");
        FiveStars two = made(2, 1);
        two.word(0, 100, 11);
        dueShelf(two, 1, 0);
    }

    private static void dueShelf(FiveStars x, int... things) {
        for (int i = 0; i < things.length; i++) {
            due("shelf(" + i + ")", x.shelf(i), things[i]);
            due("place of " + things[i], x.thingTold(things[i], 3), i);
        }
        due("shelf beyond the last", x.shelf(things.length), NONE);
    }

    private static void shelfByLaw() {
        edge(14, "THE SHELF: THINGS by what show gives");
        FiveStars x = made(4, 1);
        x.word(0, 100, 15);
        x.word(0, 200, 13);
        x.word(0, 200, 11);
        x.word(5, 300, 12);
        dueShelf(x, 1, 2, 3, 0);
        law(x, "show 0-m");
        dueShelf(x, 0, 2, 3, 1);
        law(x, "show c");
        dueShelf(x, 2, 1, 3, 0);
        law(x, "show 7");
        dueShelf(x, 0, 1, 2, 3);

        edge(14, "m MEAN (0 for NONE), w WEIGHED (0 for NONE), c how many WORDS");
        law(x, "show w");
        dueShelf(x, 1, 2, 0, 3);
        law(x, "show (m=0)*9+(w=0)");
        dueShelf(x, 0, 3, 1, 2);
        // Of THING 2 MEAN is 250, WEIGHED (2 * 3 + 3 * 2) / 5, and GOOD 48: a name takes none but its own.
        x.turns(2, 1);
        x.star(2, 2);
        law(x, "show w=240");
        dueShelf(x, 2, 0, 1, 3);
        law(x, "show m=250");
        dueShelf(x, 2, 0, 1, 3);
        law(x, "show c=2");
        dueShelf(x, 2, 0, 1, 3);
        x.turns(2, 0);
        x.star(2, 1);

        edge(14, "Ints wrap");
        law(x, "show m*8192*1024+m*512");
        // 500 * 2^23 wraps to below 0 (-100663296), 200 * 2^23 to 1677721600.
        dueShelf(x, 2, 3, 0, 1);
        law(x, "show (m=500)*(8192*8192*32-1)-(m=0)*8192*8192*32");
        dueShelf(x, 1, 2, 3, 0);
    }

    // ---- 15, 16

    private static void alike() {
        edge(15, "How often two unlike NAMES are ALIKE within w (0 .. 999). BAD.");
        FiveStars ends = made(1, 12);
        ends.word(0, 0, 5);
        ends.word(0, 11, 9995);
        range("alike(0, 11, w)", 0, 0, 999, 1, v -> ends.alike(0, 11, v));
        due("998", ends.alike(0, 11, 998), 0);
        due("the other way", ends.alike(11, 0, 999), 1);
        range("alike(one, 5, 0)", 0, 0, 11, 0, v -> made(0, 12).alike(v, 5, 0));
        range("alike(5, other, 0)", 0, 0, 11, 0, v -> made(0, 12).alike(5, v, 0));
        due("like NAMES", ends.alike(0, 0, 5), BAD);
        due("like NAMES", ends.alike(11, 11, 5), BAD);
        due("the only one", made(1, 1).alike(0, 0, 5), BAD);
        due("no NAMES", new FiveStars().alike(0, 1, 5), BAD);

        edge(15, "in HOURS that differ by w at most");
        FiveStars x = made(6, 2);
        x.word(0, 0, 503);
        x.word(0, 1, 553);
        due("5 by 4", x.alike(0, 1, 4), 0);
        due("5 by 5", x.alike(0, 1, 5), 1);
        due("5 by 6", x.alike(0, 1, 6), 1);

        edge(15, "ALIKE are two NAMES within w HOURS so many times: THINGS of which each of both has a WORD,"
            + " with as many STARS");
        x.star(1, 2);
        due("a STAR less", x.alike(0, 1, 5), 0);
        x.star(1, 4);
        due("a STAR more", x.alike(0, 1, 5), 0);
        x.word(5, 1, 453);
        x.word(4, 1, 503);
        due("a THING counts once", x.alike(0, 1, 5), 1);
        x.word(0, 100, 503);
        x.word(0, 201, 503);
        due("not of unlike THINGS", x.alike(0, 1, 999), 1);
        for (int i = 1; i < 6; i++) {
            x.word(0, 100 * i, 11);
            x.word(0, 100 * i + 1, 11);
        }
        due("all six", x.alike(0, 1, 0), 6);
        x.drop(3);
        due("five", x.alike(0, 1, 4), 5);
        due("six again", x.alike(0, 1, 5), 6);
    }

    private static void group() {
        edge(16, "GROUP by k (1 .. 6) within w (0 .. 999), as bits. BAD.");
        FiveStars ends = made(1, 2);
        ends.word(0, 0, 5);
        ends.word(0, 1, 9995);
        range("group(k, 999)", 1, 3, 6, 1, v -> ends.group(v, 999));
        range("group(1, w)", 0, 1, 999, 3, v -> ends.group(1, v));
        due("998", ends.group(1, 998), 1);

        edge(16, "(of one NAME: always; without NAMES 0)");
        due("without NAMES", new FiveStars().group(1, 0), 0);
        due("without NAMES", made(6, 0).group(6, 999), 0);
        due("one NAME", made(0, 1).group(6, 0), 1);
        due("twelve without WORDS", made(1, 12).group(1, 999), 1);

        edge(16, "GROUP by k within w: a set of NAMES any two of which are ALIKE within w k times or more");
        FiveStars six = made(6, 3);
        for (int i = 0; i < 6; i++) {
            six.word(0, 100 * i + 1, 11);
            six.word(0, 100 * i + 2, 11 + (i == 0 ? 10 : 0));
        }
        due("six times within 1", six.group(6, 1), 6);
        due("five times within 0", six.group(6, 0), 1);
        due("five times within 0", six.group(5, 0), 6);

        edge(16, "the one with the most NAMES; of several the least as bits");
        FiveStars pairs = made(3, 12);
        pairs.word(0, 10, 11);
        pairs.word(0, 11, 11);
        due("the last pair", pairs.group(1, 0), 3072);
        pairs.word(0, 103, 11);
        pairs.word(0, 105, 11);
        due("a lesser pair", pairs.group(1, 0), 40);
        pairs.word(0, 200, 21);
        pairs.word(0, 206, 21);
        due("0 and 6 are more, as bits", pairs.group(1, 0), 40);
        pairs.word(0, 9, 11);
        due("three are more than two", pairs.group(1, 0), 3584);
        FiveStars all = made(1, 12);
        for (int i = 0; i < 12; i++) {
            all.word(0, i, 11);
        }
        due("all twelve", all.group(1, 0), 4095);
        all.drop(11);
        due("eleven", all.group(1, 0), 2047);
    }

    // ---- 17

    private static void wave() {
        edge(17, "WAVE of w (1 .. 1000) HOURS: what 0 the HOUR, 1 how many WORDS. BAD; NONE: there are no WORDS.");
        range("wave(w, 0)", 1, 1, 1000, 0, v -> spoken(1, 1, 1).wave(v, 0));
        range("wave(1, what)", 0, 1, 1, 24, v -> spoken(1, 1, 24).wave(1, v));
        FiveStars x = made(1, 1);
        due("no WORDS", x.wave(1, 0), NONE);
        due("no WORDS", x.wave(1000, 1), NONE);
        due("BAD stands ahead of NONE", x.wave(0, 0), BAD);
        due("BAD stands ahead of NONE", x.wave(1, 2), BAD);
        x.word(0, 0, 15);
        x.drop(0);
        due("no WORDS again", x.wave(1, 0), NONE);
    }

    private static void dueWave(FiveStars x, int w, int hour, int words) {
        due("wave(" + w + ", 0)", x.wave(w, 0), hour);
        due("wave(" + w + ", 1)", x.wave(w, 1), words);
    }

    private static void waveEnds() {
        edge(17, "WAVE of w HOURS: the HOUR from which on (w HOURS, it among them) most WORDS are written;"
            + " of several the least");
        FiveStars x = made(2, 2);
        x.word(0, 0, 101);
        x.word(5, 101, 144);
        dueWave(x, 1, 10, 1);
        dueWave(x, 4, 7, 1);
        dueWave(x, 5, 10, 2);
        dueWave(x, 6, 9, 2);
        dueWave(x, 15, 0, 2);
        dueWave(x, 14, 1, 2);
        FiveStars ends = made(1, 1);
        ends.word(0, 0, 9991);
        dueWave(ends, 1, 999, 1);
        dueWave(ends, 999, 1, 1);
        dueWave(ends, 1000, 0, 1);
        ends.word(0, 0, 1);
        dueWave(ends, 1, 0, 1);
        dueWave(ends, 999, 0, 1);
        dueWave(ends, 1000, 0, 2);
        ends.word(0, 0, 9991);
        dueWave(ends, 999, 1, 2);
        dueWave(ends, 1, 999, 2);
        FiveStars late = spoken(1, 1, 1);
        late.word(0, 0, 55);
        late.word(0, 0, 55);
        late.word(0, 0, 95);
        late.word(0, 0, 95);
        dueWave(late, 1, 5, 2);
        dueWave(late, 4, 2, 2);
        dueWave(late, 5, 5, 4);
        dueWave(late, 6, 4, 4);
        dueWave(late, 9, 1, 5);
        dueWave(late, 10, 0, 5);
    }

    // ---- 18

    private static FiveStars hours(int... moments) {
        FiveStars x = made(2, 1);
        for (int at : moments) {
            x.word(0, 0, at);
        }
        return x;
    }

    private static void dueChange(FiveStars x, int hour, int much) {
        due("changed(0, 0)", x.changed(0, 0), hour);
        due("changed(0, 1)", x.changed(0, 1), much);
    }

    private static void changed() {
        edge(18, "CHANGED: what 0 the HOUR, 1 by how much MEANS differ. BAD; NONE: there is no such HOUR.");
        range("changed(0, what)", 0, 2, 1, 400, v -> hours(11, 25).changed(0, v));
        range("changed(thing, 0) of six", 0, NONE, 5, NONE, v -> made(6, 1).changed(v, 0));
        due("BAD stands ahead of NONE", made(1, 1).changed(0, 2), BAD);

        edge(18, "CHANGED is a THING in the HOUR t of a WORD of it, ahead of which there is another one");
        dueChange(hours(), NONE, NONE);
        dueChange(hours(15), NONE, NONE);
        dueChange(hours(15, 11, 13), NONE, NONE);
        FiveStars two = hours(15);
        two.word(0, 100, 5);
        dueChange(two, NONE, NONE);
        dueChange(hours(1, 9995), 999, 400);
        dueChange(hours(9995, 1), 999, 400);
        dueChange(hours(15, 21), 2, 400);

        edge(18, "the MEANS ahead of t, and from t on, differ (their signs left out)");
        dueChange(hours(11, 25), 2, 400);
        dueChange(hours(15, 21, 31), 2, 400);
        dueChange(hours(13, 23), 2, 0);
        dueChange(hours(12, 12, 11, 25, 25, 24), 2, 300);
        FiveStars kinds = made(1, 1);
        kinds.word(5, 0, 15);
        kinds.word(2, 0, 21);
        due("of all KINDS", kinds.changed(0, 1), 400);

        edge(18, "the t by which that is most; of several the least");
        dueChange(hours(11, 23, 35, 43, 51), 2, 200);
        dueChange(hours(51, 43, 35, 23, 11), 2, 200);
        dueChange(hours(13, 23, 33, 43), 2, 0);
        dueChange(hours(43, 33, 23, 13), 2, 0);
        dueChange(hours(13, 23, 35), 3, 200);
        dueChange(hours(35, 23, 13), 3, 200);
        dueChange(hours(23, 35, 13), 3, 200);
    }

    // ---- 19 .. 21

    /** WORDS with SIGNS 1 (WORD), 3 (PAID), 3 (BOUGHT), 9 (MOVED), 9 (RIVAL), 0 (THANKED). */
    private static FiveStars signed() {
        FiveStars x = made(1, 1);
        int[] kinds = {0, 2, 1, 4, 5, 3};
        int[] signs = {1, 3, 3, 9, 9, 0};
        for (int i = 0; i < 6; i++) {
            x.word(kinds[i], 0, 10 * signs[i] + 5);
        }
        law(x, "sign h");
        return x;
    }

    private static void off() {
        edge(19, "By a bound v (0 .. 10): what 0 how many are FOUND, 1 WRONGED. BAD.");
        range("off(v, 0)", 0, 3, 10, 0, v -> signed().off(v, 0));
        range("off(v, 1)", 0, 3, 10, 0, v -> signed().off(v, 1));
        range("off(0, what)", 0, 0, 1, 24, v -> spoken(1, 1, 24).off(0, v));
        due("no WORDS", made(1, 1).off(0, 0), 0);
        due("no WORDS", made(1, 1).off(0, 1), 0);

        edge(19, "TAKEN OFF by a bound v: WORDS of which the SIGN is v or more: FOUND are those of them that are not TRUE,"
            + " WRONGED those that are");
        int[] found = {3, 3, 3, 3, 2, 2, 2, 2, 2, 2, 0};
        int[] wronged = {3, 2, 1, 1, 0, 0, 0, 0, 0, 0, 0};
        FiveStars x = signed();
        for (int v = 0; v <= 10; v++) {
            due("off(" + v + ", 0)", x.off(v, 0), found[v]);
            due("off(" + v + ", 1)", x.off(v, 1), wronged[v]);
        }
        due("none is gone", x.count(2), 6);
    }

    private static void dueBound(FiveStars x, int best, int gain) {
        due("bound(0)", x.bound(0), best);
        due("bound(1)", x.bound(1), gain);
    }

    private static void bound() {
        edge(20, "BEST BOUND: what 0 it, 1 FOUND less WRONGED. BAD.");
        range("bound", 0, 9, 1, 2, v -> signed().bound(v));

        edge(20, "BEST BOUND: v 0 .. 10 with the most FOUND less WRONGED; of several the greatest v");
        dueBound(new FiveStars(), 10, 0);
        dueBound(spoken(1, 1, 24), 10, 0);
        dueBound(signed(), 9, 2);
        FiveStars x = signed();
        x.turns(2, 4);
        dueBound(x, 3, 4);
        x.turns(0, 2);
        dueBound(x, 1, 5);
        x.turns(5, 5);
        dueBound(x, 0, 6);
        x.turns(5, 0);
        dueBound(x, 1, 5);
        FiveStars zero = spoken(1, 1, 2);
        zero.turns(0, 2);
        dueBound(zero, 10, 0);
        zero.turns(1, 5);
        dueBound(zero, 0, 2);
        FiveStars full = made(1, 1);
        full.job(0, 12, 0, 1);
        full.job(0, 12, 0, 1);
        dueBound(full, 0, 24);
        law(full, "sign 9");
        dueBound(full, 9, 24);
    }

    private static void clean() {
        edge(21, "WORDS are TAKEN OFF by a bound v (0 .. 10), for good: how many. BAD.");
        range("clean", 0, 6, 10, 0, v -> signed().clean(v));
        int[] gone = {6, 5, 4, 4, 2, 2, 2, 2, 2, 2, 0};
        for (int v = 0; v <= 10; v++) {
            FiveStars x = signed();
            due("clean(" + v + ")", x.clean(v), gone[v]);
            due("are left", x.count(2), 6 - gone[v]);
            due("none is left to be taken off", x.clean(v), 0);
        }
        FiveStars x = signed();
        x.clean(3);
        due("the first keeps its number", x.told(0, 3), 1);
        due("the last moves up", x.told(1, 0), 3);
        due("its number is gone", x.told(2, 0), BAD);
        due("no WORDS", made(1, 1).clean(0), 0);
        due("a full one", spoken(1, 1, 24).clean(0), 24);
        due("a full one without a sign", spoken(1, 1, 24).clean(1), 0);
        FiveStars full = spoken(1, 1, 24);
        full.clean(0);
        due("there is room again", full.word(0, 0, 15), 0);

        // SIGNS are those ahead of it: with c going down on the way, all but one would stay.
        FiveStars many = spoken(1, 1, 3);
        law(many, "sign c");
        due("all three have 3", many.clean(3), 3);
    }
}
