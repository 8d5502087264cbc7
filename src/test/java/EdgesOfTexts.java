/** Promises 25 to 29, and part 4 of the terms. */
final class EdgesOfTexts extends Hand {
    private static final String[] KEYS = {"weigh", "sign", "show"};
    private static final String[] NAMES = {"shb", "shbc", "mwc"};

    static void all() {
        feed();
        trim();
        usedUp();
        texts();
        keys();
        letters();
        signsOfPieces();
        signsBehindPieces();
        wordsAndBlanks();
        numbers();
        repeats();
        firstFault();
        tests();
        open();
        theEnd();
        values();
        wraps();
        namesValues();
        textTold();
        why();
    }

    // ---- 25, 26

    private static void feed() {
        edge(25, "how many it has. FULL: it would have more than 96.");
        FiveStars x = new FiveStars();
        for (int i = 1; i <= 8; i++) {
            due("feed", x.feed(i, MIN, MAX), 12 * i);
        }
        due("108", x.feed(0, 0, 0), FULL);
        due("count(6)", x.count(6), 96);
        for (int had : new int[] {85, 86, 95}) {
            FiveStars more = fed();
            more.trim(had);
            due("12 behind " + had, more.feed(0, 0, 0), FULL);
            due("none of them came", more.count(6), had);
        }
        FiveStars just = fed();
        just.trim(84);
        due("12 behind 84", just.feed(0, 0, 0), 96);
        FiveStars first = new FiveStars();
        due("a first byte, and eleven", first.feed(0, 0, 0), 12);
        first.trim(1);
        due("12 behind 1", first.feed(0, 0, 0), 13);

        edge(25, "Twelve bytes come to THE TAPE, the highest of each number first");
        FiveStars order = new FiveStars();
        order.feed(0x73686f77, 0x2861626d, 0x2b632929);
        due("'show(abm+c))'", order.text(), -105);
        order.feed(0x73686f77, 0x20286d2b, 0x632b3729);
        due("'show (m+c+7)'", order.text(), 0);
        due("NUMBERS and NAMES", order.textTold(0, 1), 3);
        order.feed(0x73686f77, 0x206d2bff, 0x8020207f);
        due("bytes above 127", order.text(), -107);
        order.feed(0x73686f77, 0x206d2020, 0x80202020);
        due("byte 128 is no blank", order.text(), -108);
    }

    private static FiveStars fed() {
        FiveStars x = new FiveStars();
        for (int i = 0; i < 8; i++) {
            x.feed(0, 0, 0);
        }
        return x;
    }

    private static void trim() {
        edge(26, "THE TAPE keeps its first n bytes: n. BAD.");
        range("trim(n) of none", 0, 0, 0, 0, v -> new FiveStars().trim(v));
        range("trim(n) of 96", 0, 0, 96, 96, v -> fed().trim(v));
        FiveStars x = new FiveStars();
        x.feed(0, 0, 0);
        due("all", x.trim(12), 12);
        due("one more", x.trim(13), BAD);
        due("one less", x.trim(11), 11);
        due("those are gone", x.trim(12), BAD);
        due("count(6)", x.count(6), 11);
        due("none", x.trim(0), 0);
        due("none is left", x.trim(1), BAD);
        FiveStars first = new FiveStars();
        tape(first, "show m+w)))");
        first.trim(8);
        due("its first ones", first.text(), 0);
    }

    // ---- 27

    private static void usedUp() {
        edge(27, "from THE TAPE (96 bytes at most; an act that reads it uses it up, whatever it answers)");
        FiveStars x = new FiveStars();
        dueLaw(x, "show m", 0);
        due("by a TEXT", x.count(6), 0);
        dueLaw(x, "show s", -105);
        due("by a FAULT", x.count(6), 0);
        dueLaw(x, "show " + "m+".repeat(45) + "m", 1);
        due("all 96", x.count(6), 0);
        for (int i = 2; i < 14; i++) {
            law(x, "sign 1");
        }
        dueLaw(x, "sign 1", FULL);
        due("by FULL", x.count(6), 0);
        due("the next one is empty", x.text(), -100);
    }

    private static void texts() {
        edge(27, "TEXTS, 14 at most, numbered from 0");
        FiveStars x = new FiveStars();
        for (int i = 0; i < 14; i++) {
            dueLaw(x, KEYS[i % 3] + " " + i, i);
        }
        dueLaw(x, "weigh 5", FULL);
        due("count(4)", x.count(4), 14);
        due("FULL does not count for its KEY", x.why(0), 12);

        edge(27, "THE TAPE is a TEXT: its number. -100 less the place of its FAULT; FULL.");
        dueLaw(x, "weigh m", -106);
        dueLaw(x, "", -100);
        FiveStars none = new FiveStars();
        dueLaw(none, "weigh m", -106);
        dueLaw(none, "weigh s", 0);
    }

    private static void keys() {
        edge(27, "KEY E. KEY: weigh | sign | show.");
        for (String key : KEYS) {
            int end = key.length();
            dueLaw(new FiveStars(), key + " 1", 0);
            dueLaw(new FiveStars(), key + "(1)", 0);
            dueLaw(new FiveStars(), key + "!1", 0);
            dueLaw(new FiveStars(), key, -100 - end);
            dueLaw(new FiveStars(), key + "s 1", -100);
            dueLaw(new FiveStars(), key + "1", -100 - end);
            dueLaw(new FiveStars(), key.substring(0, end - 1) + " 1", -100);
            dueLaw(new FiveStars(), key.substring(1) + " 1", -100);
            dueLaw(new FiveStars(), key + " " + key, -101 - end);
            dueLaw(new FiveStars(), key.toUpperCase() + " 1", -100);
            dueLaw(new FiveStars(), key + "  (  " + key, -105 - end);
            for (int i = 0; i < end; i++) {
                dueLaw(new FiveStars(), key.substring(0, i) + "a" + key.substring(i + 1) + " 1", -100);
            }
        }
        dueLaw(new FiveStars(), "s 1", -100);
        dueLaw(new FiveStars(), "1 1", -100);
        dueLaw(new FiveStars(), "(weigh 1)", -100);
    }

    private static void letters() {
        edge(27, "NAMES, each one letter: of weigh s STARS, h HOUR, b BORN of the NAME; of sign s, h, b,"
            + " c how many WORDS the NAME has; of show m MEAN");
        for (int key = 0; key < 3; key++) {
            int at = KEYS[key].length() + 1;
            for (char c = 'a'; c <= 'z'; c++) {
                boolean has = NAMES[key].indexOf(c) >= 0;
                dueLaw(new FiveStars(), KEYS[key] + " " + c, has ? 0 : -100 - at);
                dueLaw(new FiveStars(), KEYS[key] + " 1+" + c, has ? 0 : -102 - at);
                dueLaw(new FiveStars(), KEYS[key] + " " + c + c, -100 - at);
            }
        }
    }

    private static void signsOfPieces() {
        edge(27, "PIECE: NUMBER (1 to 4 digits) | NAME | ! PIECE | ( E )");
        for (int b = 0; b < 256; b++) {
            char c = (char) b;
            boolean begins = c >= '0' && c <= '9' || "mwc".indexOf(c) >= 0;
            boolean goesOn = c == '!' || c == '(' || c == ' ';
            dueLaw(new FiveStars(), "show " + c, begins ? 0 : goesOn ? -106 : -105);
            // Ahead of 1 digits make one NUMBER with it, and a letter stands right ahead of a word.
            boolean allowed = c >= '0' && c <= '9' || c == '!' || c == ' ';
            dueLaw(new FiveStars(), "show !" + c + "1", allowed ? 0 : c == '(' ? -108 : begins ? -107 : -106);
        }
    }

    private static void signsBehindPieces() {
        edge(27, "any other byte is a sign by itself");
        for (int b = 0; b < 256; b++) {
            char c = (char) b;
            boolean joins = "|&<=>+-*/".indexOf(c) >= 0;
            dueLaw(new FiveStars(), "show m" + c + "w", joins ? 0 : c == ' ' ? -107 : c >= 'a' && c <= 'z' ? -105 : -106);
            dueLaw(new FiveStars(), "show m " + c + " w", joins ? 0 : c == ' ' ? -109 : -107);
            dueLaw(new FiveStars(), "show (m)" + c + "(w)", joins ? 0 : c == ' ' ? -109 : -108);
            boolean mayEnd = c == ' ' || c >= '0' && c <= '9';
            dueLaw(new FiveStars(), "show 5" + c, mayEnd ? 0 : joins ? -107 : -106);
        }
        dueLaw(new FiveStars(), "show m<=w", -107);
        dueLaw(new FiveStars(), "show m&&w", -107);
        dueLaw(new FiveStars(), "show m||w", -107);
        dueLaw(new FiveStars(), "show m-!w", 0);
        dueLaw(new FiveStars(), "show -1", -105);
    }

    private static void wordsAndBlanks() {
        edge(27, "Between words and signs, and at the ends, there may be blanks (byte 32); a word right behind another one"
            + " needs one");
        dueLaw(new FiveStars(), "   show   (  m  +  12  )  *  !  !  w   ", 0);
        dueLaw(new FiveStars(), "show(m+12)*!!w", 0);
        dueLaw(new FiveStars(), " ".repeat(90) + "show m", 0);
        dueLaw(new FiveStars(), "show m" + " ".repeat(90), 0);
        dueLaw(new FiveStars(), "sho w m", -100);
        dueLaw(new FiveStars(), "show 1 2", -107);
        for (int blank : new int[] {0, 9, 10, 13, 31, 33 + 1, 160}) {
            dueLaw(new FiveStars(), "show" + (char) blank + "m", -104);
            dueLaw(new FiveStars(), "show m" + (char) blank, -106);
            dueLaw(new FiveStars(), (char) blank + "show m", -100);
        }

        edge(27, "a word that needs a blank ahead of it");
        dueLaw(new FiveStars(), "show1", -104);
        dueLaw(new FiveStars(), "show m1", -106);
        dueLaw(new FiveStars(), "show 1m", -106);
        dueLaw(new FiveStars(), "show 1m1", -106);
        dueLaw(new FiveStars(), "show 1+1w", -108);
        dueLaw(new FiveStars(), "1show m", -100);

        edge(27, "A word is a row of letters a .. z, or of digits, as long as it goes");
        dueLaw(new FiveStars(), "show mm", -105);
        dueLaw(new FiveStars(), "show `", -105);
        dueLaw(new FiveStars(), "show m{", -106);
        dueLaw(new FiveStars(), "show m`", -106);
        dueLaw(new FiveStars(), "show 1:", -106);
        dueLaw(new FiveStars(), "show 1/", -107);
        dueLaw(new FiveStars(), "show M", -105);
    }

    private static void numbers() {
        edge(27, "a NUMBER of more than 4 digits");
        String[] allowed = {"0", "9", "00", "99", "000", "999", "0000", "0001", "9999"};
        for (String number : allowed) {
            dueLaw(new FiveStars(), "show " + number, 0);
            dueLaw(new FiveStars(), "show 1+" + number, 0);
        }
        String[] beyond = {"00000", "00001", "10000", "99999", "0".repeat(91), "4294967297"};
        for (String number : beyond) {
            dueLaw(new FiveStars(), "show " + number, -105);
            dueLaw(new FiveStars(), "show (" + number.substring(number.length() - 5) + ")", -106);
        }
        dueLaw(new FiveStars(), "show 1234 5", -110);
    }

    private static void repeats() {
        edge(27, "OR: AND { | AND }; AND: TEST { & TEST }");
        dueRepeats('|');
        dueRepeats('&');

        edge(27, "SUM: TERM { (+ | -) TERM }; TERM: PIECE { (* | /) PIECE }");
        for (char sign : "+-*/".toCharArray()) {
            dueRepeats(sign);
        }
    }

    /** None of it, one, and as many as THE TAPE has room for. */
    private static void dueRepeats(char sign) {
        for (int many : new int[] {0, 1, 2, 45}) {
            FiveStars x = new FiveStars();
            dueLaw(x, "show " + ("m" + sign).repeat(many) + "w", 0);
            due("NUMBERS and NAMES", x.textTold(0, 1), many + 1);
        }
        dueLaw(new FiveStars(), "show " + sign, -105);
        dueLaw(new FiveStars(), "show " + sign + "m", -105);
        dueLaw(new FiveStars(), "show m" + sign, -107);
        dueLaw(new FiveStars(), "show m" + sign + sign + "w", -107);
        dueLaw(new FiveStars(), "show m" + sign + ")", -107);
    }

    private static void firstFault() {
        edge(27, "FAULT: the first byte of the first word or sign with which no TEXT goes on");
        dueLaw(new FiveStars(), "shows m m ) 12345", -100);
        dueLaw(new FiveStars(), "  shows m", -102);
        dueLaw(new FiveStars(), "show  mwc ) 12345", -106);
        dueLaw(new FiveStars(), "show  12345 ) mwc", -106);
        dueLaw(new FiveStars(), "show m  weigh )", -108);
        dueLaw(new FiveStars(), "show m  1234", -108);
        dueLaw(new FiveStars(), "show (m+s)+", -108);
        dueLaw(new FiveStars(), "show m+w)+s", -108);
        dueLaw(new FiveStars(), "weigh s weigh s", -108);
    }

    private static void tests() {
        edge(27, "TEST: SUM [ (< | = | >) SUM ]");
        for (char one : "<=>".toCharArray()) {
            dueLaw(new FiveStars(), "show m" + one + "w", 0);
            for (char two : "<=>".toCharArray()) {
                dueLaw(new FiveStars(), "show m" + one + "w" + two + "c", -108);
                dueLaw(new FiveStars(), "show m" + one + "w+1" + two + "c", -110);
                dueLaw(new FiveStars(), "show (m" + one + "w)" + two + "c", 0);
                dueLaw(new FiveStars(), "show m" + one + "(w" + two + "c)", 0);
                dueLaw(new FiveStars(), "show m" + one + "w&m" + two + "c", 0);
                dueLaw(new FiveStars(), "show m" + one + "w|m" + two + "c", 0);
                dueLaw(new FiveStars(), "show (m" + one + "w" + two + "c)", -109);
                dueLaw(new FiveStars(), "show m" + one + "w&m" + two + "c" + one + "1", -112);
            }
        }
    }

    private static void open() {
        edge(27, "the ninth ( that would be open within others");
        for (int n = 1; n <= 12; n++) {
            dueLaw(new FiveStars(), "show " + "(".repeat(n) + "m" + ")".repeat(n), n <= 8 ? 0 : -113);
        }
        String eight = "(".repeat(8) + "m" + ")".repeat(8);
        dueLaw(new FiveStars(), "show " + eight + "+" + eight + "*" + eight + "&" + eight, 0);
        dueLaw(new FiveStars(), "show " + "(".repeat(8) + "m)+(w)" + ")".repeat(7), 0);
        dueLaw(new FiveStars(), "show " + "(".repeat(8) + "m+(w)" + ")".repeat(8), -115);
        dueLaw(new FiveStars(), "show (m+" + eight + ")", -115);
        dueLaw(new FiveStars(), "show " + "( ".repeat(9), -121);

        edge(27, "the ninth ! likewise, each by itself");
        for (int n = 1; n <= 12; n++) {
            dueLaw(new FiveStars(), "show " + "!".repeat(n) + "m", n <= 8 ? 0 : -113);
        }
        String nots = "!".repeat(8) + "m";
        dueLaw(new FiveStars(), "show " + nots + "+" + nots + "*" + nots + "&" + nots, 0);
        dueLaw(new FiveStars(), "show " + "!(".repeat(8) + "m" + ")".repeat(8), 0);
        dueLaw(new FiveStars(), "show " + "(!".repeat(8) + "m" + ")".repeat(8), 0);
        dueLaw(new FiveStars(), "show " + "!(".repeat(8) + "!m" + ")".repeat(8), -121);
        dueLaw(new FiveStars(), "show " + "!(".repeat(8) + "(m)" + ")".repeat(8), -121);
        dueLaw(new FiveStars(), "show " + "!".repeat(8) + "(" + "!m)", -114);
        dueLaw(new FiveStars(), "show " + "!".repeat(8) + "(m+!m)", -116);
        dueLaw(new FiveStars(), "show " + "!".repeat(8) + eight, 0);
        dueLaw(new FiveStars(), "show " + "(".repeat(8) + nots + ")".repeat(8), 0);
        dueLaw(new FiveStars(), "show " + "!(".repeat(7) + "!m" + ")".repeat(7) + "+!m", 0);
    }

    private static void theEnd() {
        edge(27, "the end (the place behind the last byte), if it comes too soon");
        String[] tooSoon = {"", " ", "show", "show ", "show    ", "show (", "show (m", "show (m ", "show m+", "show m+ ",
            "show !", "show m<", "show m&", "show m|", "show m*", "show ((m)", "show (m+(w)", " ".repeat(96),
            " ".repeat(92) + "show", "show " + "m+".repeat(45) + " "};
        for (String s : tooSoon) {
            dueLaw(new FiveStars(), s, -100 - s.length());
        }
        dueLaw(new FiveStars(), "show " + "m+".repeat(45) + "+", -195);
        dueLaw(new FiveStars(), "show " + "m+".repeat(45) + "m", 0);
        dueLaw(new FiveStars(), "show " + "m+".repeat(45) + "s", -195);
        dueLaw(new FiveStars(), "show m)", -106);
        dueLaw(new FiveStars(), "show (m))", -108);
        dueLaw(new FiveStars(), "show m show w", -107);

        // Bytes that were cut off, or were there ahead of it, are not read.
        FiveStars cut = new FiveStars();
        tape(cut, "show m+w+c+1234");
        cut.trim(9);
        due("the end is where it was cut", cut.text(), -109);
        cut.feed(0x73686f77, 0x20202020, 0x20202020);
        due("older bytes", cut.text(), -112);
    }

    /** The worth of an E, seen as the SIGN (0 .. 9) of a WORD. */
    private static void dueWorth(String e, int want) {
        FiveStars x = spoken(1, 1, 1);
        dueLaw(x, "sign " + e, 0);
        due("SIGN by " + e, x.told(0, 7), want);
    }

    private static void values() {
        edge(27, "tests, & | ! give 1 or 0 (what is not 0 is true; both sides are worked out)");
        int[][] pairs = {{0, 0}, {0, 1}, {1, 0}, {1, 1}, {2, 1}, {1, 2}, {5, 5}, {9999, 0}};
        for (int[] p : pairs) {
            dueWorth(p[0] + "<" + p[1], p[0] < p[1] ? 1 : 0);
            dueWorth(p[0] + "=" + p[1], p[0] == p[1] ? 1 : 0);
            dueWorth(p[0] + ">" + p[1], p[0] > p[1] ? 1 : 0);
            dueWorth(p[0] + "&" + p[1], p[0] != 0 && p[1] != 0 ? 1 : 0);
            dueWorth(p[0] + "|" + p[1], p[0] != 0 || p[1] != 0 ? 1 : 0);
            dueWorth("!" + p[0], p[0] == 0 ? 1 : 0);
            for (char sign : "<=>&|".toCharArray()) {
                dueWorth("((" + p[0] + sign + p[1] + ")=0)+((" + p[0] + sign + p[1] + ")=1)", 1);
            }
        }
        dueWorth("(0-5)&(0-1)", 1);
        dueWorth("(0-5)|0", 1);
        dueWorth("!(0-1)", 0);
        dueWorth("(0-2)<(0-1)", 1);
        dueWorth("0&1/0|1", 1);

        edge(27, "/ is 0 by 0");
        dueWorth("9/0", 0);
        dueWorth("0/0", 0);
        dueWorth("9/0+4", 4);
        dueWorth("4+9/(3-3)", 4);
        dueWorth("9/1", 9);
        dueWorth("9/(0-1)+10", 1);

        edge(27, "All numbers are whole; / cuts towards 0.");
        dueWorth("9/2", 4);
        dueWorth("(0-9)/2+9", 5);
        dueWorth("9/(0-2)+9", 5);
        dueWorth("(0-9)/(0-2)", 4);
        dueWorth("(0-1)/2=0", 1);

        edge(27, "E, the loosest first");
        dueWorth("1|0&0", 1);
        dueWorth("0&0|1", 1);
        dueWorth("1&2=3", 0);
        dueWorth("2=1+1", 1);
        dueWorth("1+2*3", 7);
        dueWorth("6/2*3", 9);
        dueWorth("9-2-3", 4);
        dueWorth("8-6/2", 5);
        dueWorth("!1+3", 3);
        dueWorth("!0*3", 3);
        dueWorth("!0=1", 1);
    }

    private static void wraps() {
        edge(27, "Ints wrap");
        dueWorth("8192*8192*32<0", 1);
        dueWorth("8192*8192*32-1>0", 1);
        dueWorth("8192*8192*32+8192*8192*32", 0);
        dueWorth("8192*8192*32*2", 0);
        dueWorth("8192*8192*64+7", 7);
        dueWorth("0-8192*8192*32<0", 1);
        dueWorth("8192*8192*32/(0-1)<0", 1);
        dueWorth("8192*8192*32/(0-1)=8192*8192*32", 1);
        dueWorth("(8192*8192*32-1)*2+5", 3);
        // 9999 to the fourth, less 2327375 times 2 to the 32nd, is 1089432001.
        dueWorth("9999*9999*9999*9999=(10*9999+8964)*9999+955", 1);
    }

    private static void namesValues() {
        edge(27, "of weigh s STARS, h HOUR, b BORN of the NAME");
        FiveStars x = new FiveStars();
        x.thing(0);
        x.name(999);
        x.name(0);
        x.word(0, 0, 1);
        x.word(0, 1, 9995);
        String[] asked = {"s=1", "s=5", "h=0", "h=999", "b=999", "b=0"};
        for (int i = 0; i < asked.length; i++) {
            law(x, "weigh " + asked[i]);
            due("weigh " + asked[i] + " of WORD 0", x.told(0, 5), i == 0 || i == 2 || i == 4 ? 1 : 0);
            due("weigh " + asked[i] + " of WORD 1", x.told(1, 5), i == 1 || i == 3 || i == 5 ? 1 : 0);
        }

        edge(27, "of sign s, h, b, c how many WORDS the NAME has");
        FiveStars full = spoken(1, 2, 24);
        law(full, "sign c=24");
        due("24 of one NAME", full.told(23, 7), 1);
        full.drop(0);
        full.word(0, 1, 9991);
        due("23 of it", full.told(0, 7), 0);
        law(full, "sign (c=23)+2*(c=1)");
        due("23 of it", full.told(22, 7), 1);
        due("1 of the other", full.told(23, 7), 2);
        FiveStars wide = made(6, 2);
        for (int i = 0; i < 6; i++) {
            wide.word(i, 100 * i + 1, 10 * i + 1);
        }
        law(wide, "sign c");
        due("of all THINGS and KINDS", wide.told(3, 7), 6);
        law(full, "sign (s=1)+2*(h=999)+4*(b=10)");
        due("s, h, b", full.told(23, 7), 7);
        due("s, h, b", full.told(0, 7), 0);

        edge(27, "Of a KEY that TEXT counts that was told last.");
        law(full, "sign 1");
        law(full, "sign 2");
        law(full, "weigh 5");
        due("the last", full.told(0, 7), 2);
        law(full, "sign (");
        due("a FAULT does not count", full.told(0, 7), 2);
    }

    // ---- 28, 29

    private static void textTold() {
        edge(28, "Of a TEXT: what 0 KEY (0 weigh, 1 sign, 2 show), 1 how many NUMBERS and NAMES it has. BAD.");
        FiveStars x = new FiveStars();
        due("no TEXTS", x.textTold(0, 0), BAD);
        for (int i = 0; i < 14; i++) {
            law(x, KEYS[i % 3] + " 1" + "+1".repeat(i));
        }
        range("textTold(0, what)", 0, 0, 1, 1, v -> x.textTold(0, v));
        range("textTold(text, 0)", 0, 0, 13, 1, v -> x.textTold(v, 0));
        for (int i = 0; i < 14; i++) {
            due("KEY of " + i, x.textTold(i, 0), i % 3);
            due("NUMBERS of " + i, x.textTold(i, 1), i + 1);
        }
        FiveStars y = new FiveStars();
        law(y, "show " + "m+".repeat(45) + "w");
        due("the most", y.textTold(0, 1), 46);
        law(y, "show !!((!(0000)))");
        due("the least", y.textTold(1, 1), 1);
        due("beyond the last", y.textTold(2, 0), BAD);
        law(y, "show m m");
        due("a FAULT is no TEXT", y.textTold(2, 0), BAD);
    }

    private static void why() {
        edge(29, "The TEXT that counts for a KEY. BAD; NONE.");
        range("why of none", 0, NONE, 2, NONE, v -> new FiveStars().why(v));
        FiveStars x = new FiveStars();
        for (int i = 0; i < 14; i++) {
            law(x, KEYS[i / 5] + " 1");
        }
        int[] last = {4, 9, 13};
        for (int key = 0; key < 3; key++) {
            due("why(" + key + ")", x.why(key), last[key]);
        }
        law(x, "weigh 1");
        due("FULL changes nothing", x.why(0), 4);
        law(x, "weigh (");
        due("a FAULT changes nothing", x.why(0), 4);
        range("why", 0, 4, 2, 13, x::why);
        FiveStars first = new FiveStars();
        law(first, "show 1");
        due("TEXT 0", first.why(2), 0);
        due("another KEY", first.why(0), NONE);
        due("another KEY", first.why(1), NONE);
    }
}
