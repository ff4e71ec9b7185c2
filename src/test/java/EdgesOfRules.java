/** Boundary cases of promises 13 and 14: THE TAPE, THE RULES, and where a TEXT has its FAULT. */
final class EdgesOfRules extends Edge {
    private static final String EIGHT = "farm give;".repeat(8);

    static void all() {
        feed();
        usedUp();
        howManyRules();
        numbers();
        namesAndBlanks();
        open();
        faultAndEnd();
        refusedTexts();
        whoIsTold();
        facts();
    }

    private static void right(String text, int rules) {
        ThirteenthBun x = new ThirteenthBun();
        is("rules() of '" + text + "'", Check.tell(x, text), rules);
        is("many(1) behind '" + text + "'", x.many(1), rules);
    }

    private static void fault(String text, int place) {
        is("rules() of '" + text + "'", Check.tell(new ThirteenthBun(), text), -100 - place);
    }

    /** THE TAPE holds that many blanks. */
    private static ThirteenthBun blanks(int n) {
        ThirteenthBun x = new ThirteenthBun();
        Check.feed(x, " ".repeat(n));
        return x;
    }

    private static void feed() {
        says(13, "n bytes (1 to 8) come to THE TAPE, the lowest of eight first: how many it has. BAD; FULL: more than 200.");
        takes(1, 8, "feed(.., n)", Villages::anew, (x, v) -> x.feed(0x2020202020202020L, v));
        takes(1, 8, "feed(.., n) behind 190", () -> blanks(190), (x, v) -> x.feed(-1L, v));
        for (int n = 1; n <= 8; n++) {
            is("feed(.., " + n + ") to an empty one", blanks(0).feed(0, n), n);
            is("feed(.., " + n + ") up to 200", blanks(200 - n).feed(0, n), 200);
            int with = n;
            refused(ThirteenthBun.FULL, "feed(.., " + n + ") to 201", () -> blanks(201 - with), x -> x.feed(0, with));
            refused(ThirteenthBun.FULL, "feed(.., " + n + ") to a full one", Villages::full, x -> x.feed(-1L, with));
        }
        says(13, "the lowest of eight first");
        for (int n = 1; n <= 8; n++) {
            ThirteenthBun x = new ThirteenthBun();
            // Only the n-th byte is none that can stand there.
            x.feed(0x2020202020202020L & ~(255L << 8 * n - 8) | 0xffL << 8 * n - 8, n);
            is("the fault of feed with byte " + n + " of 255", x.rules(), -100 - (n - 1));
            if (n < 8) {
                x.feed(0x2020202020202020L | 0xffL << 8 * n, n);
                is("bytes above the lowest " + n + " count nothing", x.rules(), 0);
            }
        }
        says(13, "of several the first named: BAD (-1) there is no such thing, or a number is not as told; FULL (-2)");
        refused(ThirteenthBun.BAD, "feed(.., n) to a full one", Villages::full, (x, v) -> x.feed(0, v), 0, -1, 9,
            Integer.MIN_VALUE, Integer.MAX_VALUE);
    }

    private static void usedUp() {
        says(14, "THE TAPE takes bytes, 200 at most; rules() uses it up.");
        ThirteenthBun x = new ThirteenthBun();
        Check.feed(x, "sad give" + " ".repeat(191) + ";");
        is("many(5)", x.many(5), 200);
        is("rules() of 200 bytes", x.rules(), 1);
        is("many(5)", x.many(5), 0);
        Check.feed(x, "sad give" + " ".repeat(191) + ",");
        is("many(5)", x.many(5), 200);
        is("rules() of 200 bytes, the last a fault", x.rules(), -299);
        is("many(5)", x.many(5), 0);
        is("rules() of none", x.rules(), 0);
        says(14, "such a call changes nothing (but that THE TAPE is used up by rules())");
        ThirteenthBun faulty = Villages.full();
        faulty.rules();
        Check.tell(faulty, "house hold; x");
        ThirteenthBun empty = Villages.full();
        empty.rules();
        same("rules() with a fault", faulty, empty);
    }

    private static void howManyRules() {
        says(14, "TEXT: { KIND DO ; | KIND if COND DO ; }, 8 RULES at most.");
        right("", 0);
        right(" ", 0);
        right(" ".repeat(200), 0);
        right("house give;", 1);
        for (int n = 1; n <= 8; n++) {
            right("farm give;".repeat(n), n);
        }
        right("farm if 1=1 give;".repeat(8), 8);
        right(EIGHT + " ".repeat(120), 8);
        says(14, "the first NAME of the ninth RULE, too");
        fault(EIGHT + "farm give;", 80);
        fault(EIGHT + "   farm", 83);
        fault(EIGHT + "x", 80);
        fault(EIGHT + "0", 80);
        fault(EIGHT + " 9999", 81);
        fault(EIGHT + "10000", 80);
        fault(EIGHT + ";", 80);
        fault(EIGHT + (char) 255, 80);
        fault("farm if 1=1 give;".repeat(8) + "sad hold;", 136);
        fault("farm give;".repeat(20), 80);
        says(14, "THE TAPE tells THE RULES (in place of all): how many; -100 less its FAULT.");
        ThirteenthBun x = Villages.sad();
        is("eight", Check.tell(x, EIGHT), 8);
        is("one in place of them", Check.tell(x, "sad hold;"), 1);
        is("its will", x.houseOf(0, 8), 1);
        is("none in place of it", Check.tell(x, "  "), 0);
        is("many(1)", x.many(1), 0);
        is("its will", x.houseOf(0, 8), 0);
        is("eight again", Check.tell(x, EIGHT), 8);
        String longest = "sad if 1=2" + "or1=2".repeat(35) + "or1=1 hold;";
        for (int turn = 0; turn < 5; turn++) {
            is("a long one in place of all", Check.tell(x, longest), 1);
            is("its will", x.houseOf(0, 8), 1);
        }
    }

    private static void numbers() {
        says(14, "N are NUMBERS 0 to 9999.");
        holds("0=0", true);
        holds("0000=0", true);
        holds("9999>9998", true);
        holds("9999=9999", true);
        holds("9998<9999", true);
        holds("0<1", true);
        holds("1000>999", true);
        says(14, "NUMBERS rows of digits (1 to 4), both as long as they go");
        right("house if 0=9999 give;", 1);
        right("house if 0000=0009 give;", 1);
        fault("house if 10000=1 give;", 9);
        fault("house if 1=10000 give;", 11);
        fault("house if 00000=1 give;", 9);
        fault("house if 1=00001 give;", 11);
        fault("house if 1=" + "1".repeat(180), 11);
        says(14, "(a NUMBER of more digits, the fourth \"(\", the first NAME of the ninth RULE, too)");
        fault("house if 99999", 9);
        fault("house if 1= 99999", 12);
        fault("99999", 0);
        fault("house 99999", 6);
        fault("house if 1=1 99999", 13);
        fault("house if 1234 5=1 give;", 14);
    }

    private static void namesAndBlanks() {
        says(14, "NAMES are rows of letters a to z, NUMBERS rows of digits (1 to 4), both as long as they go;"
            + " blanks (32) part them, and stand elsewhere as one likes.");
        right("house give;", 1);
        right("house if 1=2give;", 1);
        right("house if1=2give;", 1);
        right("   house   if   1   <   2   give   ;   ", 1);
        fault("housegive;", 0);
        fault("housea give;", 0);
        fault("housez give;", 0);
        fault("house`give;", 5);
        fault("house{give;", 5);
        fault("hous e give;", 0);
        fault("house if 1 2=1 give;", 11);
        fault("house if nightnight=1 give;", 9);
        fault("house if 1=1 givea;", 13);
        fault("house if 1/1", 10);
        fault("house if 1:1", 10);
        for (int b = 0; b < 256; b++) {
            if (b != ' ') {
                fault("house " + (char) b, 6);
            }
        }
        int[] others = {0, 9, 10, 13, 31, 33, 127, 128, 160, 255};
        for (int b : others) {
            fault("house" + (char) b + "give;", 5);
            fault("house give;" + (char) b, 11);
        }
    }

    private static void open() {
        says(14, "At most 3 \"(\" are open within one another.");
        right("house if (1=1) give;", 1);
        right("house if (((1=1))) give;", 1);
        right("house if (((1=1)or(1=1))or((1=1)))or(((1=1))) give;", 1);
        right("house if not(not(not(1=1))) give;", 1);
        right("house if (1=1)and(1=1)and(1=1)and(1=1)and(1=1) give;", 1);
        says(14, "(a NUMBER of more digits, the fourth \"(\", the first NAME of the ninth RULE, too)");
        fault("house if ((((1=1)))) give;", 12);
        fault("house if (((1=1)or((1=1", 19);
        fault("house if ( ( ( (", 15);
        fault("house if (((not(1=1)))) give;", 15);
        fault("house if (1=1)or(((not not (", 27);
        fault("house if (((1=1))) and (((1=1))) or (((1=1))) or ((((", 52);
    }

    private static void faultAndEnd() {
        says(14, "FAULT: the place (from 0) of the first byte of the first NAME, NUMBER or other byte that can't stand there");
        fault("x", 0);
        fault(" x", 1);
        fault("house  hous", 7);
        fault("house give; 7", 12);
        fault("house give; =", 12);
        fault("  house  give  ;  ;", 18);
        fault(" ".repeat(199) + "x", 199);
        says(14, "or the end (how many bytes there are), if more must come.");
        fault("house", 5);
        fault("house ", 6);
        fault("house if", 8);
        fault("house if not", 12);
        fault("house if (", 10);
        fault("house if 1", 10);
        fault("house if 1=", 11);
        fault("house if 1=1", 12);
        fault("house if (1=1", 13);
        fault("house if 1=1 and", 16);
        fault("house if 1=1 or", 15);
        fault("house if 1=1 give", 17);
        fault("house give", 10);
        fault("house give;sad", 14);
        fault("house give" + " ".repeat(190), 200);
        fault(" ".repeat(195) + "house", 200);
    }

    private static void refusedTexts() {
        says(14, "such a call changes nothing (but that THE TAPE is used up by rules())");
        String[] texts = {"x", "house", "house hold; house hold", EIGHT + "farm", "sad if ((((", "sad if 1=12345 hold;"};
        for (String text : texts) {
            ThirteenthBun x = Villages.full();
            is("eight rules", x.rules(), 2);
            Check.tell(x, "sad send; house if night>14 hold;");
            ThirteenthBun y = Villages.full();
            y.rules();
            Check.tell(y, "sad send; house if night>14 hold;");
            is("rules() of '" + text + "'", Check.tell(x, text) <= -100 ? 1 : 0, 1);
            same("rules() of '" + text + "' is refused: then", x, y);
        }
    }

    private static void will(String text, ThirteenthBun x, int k, int want) {
        Check.tell(x, text);
        is("will of house " + k + " by '" + text + "'", x.houseOf(k, 8), want);
    }

    private static void holds(String condition, boolean is) {
        will("house if " + condition + " hold;", Villages.sad(), 0, is ? 1 : 0);
    }

    private static void whoIsTold() {
        says(14, "give (if no RULE tells), hold, or send: the first of THE RULES whose KIND is its or above it, and whose"
            + " condition holds, tells it.");
        will("", Villages.sad(), 0, 0);
        will("bride hold; farm hold; trouble hold; lovell hold;", Villages.sad(), 0, 0);
        will("sad if 1=2 hold; house if 2=1 send;", Villages.sad(), 0, 0);
        will("bride hold; sad if 1=2 hold; sad send; sad hold;", Villages.sad(), 0, 2);
        will("house hold; sad send;", Villages.sad(), 0, 1);
        will("sad if 1=2 give;".repeat(7) + "house send;", Villages.sad(), 0, 2);
        will("farm give;".repeat(7) + "sad hold;", Villages.sad(), 0, 1);
        String[] kinds = {"house", "bride", "sad", "trouble", "farm", "lovell"};
        int[][] under = {{1, 2, 3, 4, 5}, {1}, {2, 3}, {3}, {4, 5}, {5}};
        for (int above = 0; above < 6; above++) {
            ThirteenthBun x = new ThirteenthBun();
            for (int kind = 1; kind <= 5; kind++) {
                x.house(kind, 0, 0, 0);
            }
            Check.tell(x, kinds[above] + " hold;");
            for (int kind = 1; kind <= 5; kind++) {
                int want = 0;
                for (int u : under[above]) {
                    want = u == kind ? 1 : want;
                }
                is("is kind " + kind + " told by '" + kinds[above] + " hold;'? that", x.houseOf(kind - 1, 8), want);
            }
        }
    }

    private static void facts() {
        says(14, "SIGN: < | = | >");
        holds("1<1", false);
        holds("1=1", true);
        holds("1>1", false);
        holds("1<2", true);
        holds("1=2", false);
        holds("1>2", false);
        holds("2<1", false);
        holds("2=1", false);
        holds("2>1", true);
        says(14, "FACTS: the NIGHT that goes by; its GRIEF, what it DRAWS, RAIN then; its number.");
        ThirteenthBun x = Villages.five();
        x.house(2, 0, 0, 5);
        x.lane(5, 0, 9);
        will("house if number=0 hold;", x, 0, 1);
        will("house if number=5 and grief=0 and draws=0 and rain=0 and night=0 hold;", x, 5, 1);
        x.change(5, 2, 9);
        x.shop(0, 9);
        will("house if grief=9 and rain=9 and draws=18 hold;", x, 5, 1);
        x.ends(16);
        for (int night = 0; night < 15; night++) {
            x.dusk(night, 3);
            x.night();
        }
        x.dusk(15, 13);
        will("house if night=15 and rain=9 hold;", x, 5, 1);
        x.change(5, 5, 0);
        x.change(5, 4, 2);
        Check.tell(x, "sad if night=15 and rain=6 and draws=15 and grief=9 and number=5 send;");
        is("worth of night 15", Villages.go(x, 6), 0);
        is("behind (1) it sends", x.houseOf(5, 4), 0);
        will("house if night=16 hold;", x, 5, 1);
    }
}
