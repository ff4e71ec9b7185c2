/** Boundary cases of promises 42 to 53: SHEETS, SHELVES, things with ACTS, THE TRACE, what is kept. */
final class EdgesOfHost extends Edge {
    interface Items {
        long of(ThirteenthBun x, int sheet, int i, int n);
    }

    private static final int NOTHING = -11, OUTSIDE = -12, OTHER = -13, BELOW_ZERO = -14, PARTED = -15;
    private static final int[] FAR = {-1, Integer.MIN_VALUE, Integer.MAX_VALUE};

    static void all() {
        whatTheHostRefuses();
        sheet();
        write();
        narrowed();
        item();
        goAll();
        wouldBe();
        shelf();
        taken();
        act();
        wraps();
        parted();
        trace();
        many();
        keep();
        again();
        whatAgainLeaves();
    }

    /** SHEET 0 is a row of a sort; the SHEETS behind it are missing. */
    private static ThirteenthBun row(int sort, int n) {
        ThirteenthBun x = Villages.sad();
        x.sheet(0, sort, n);
        return x;
    }

    private static void whatTheHostRefuses() {
        says(44, "and what the host refuses: -11 nothing where something is asked, -12 a place outside, -13 a thing of another sort or"
            + " kind, -14 a size below 0, -15 parted by 0.");
        ThirteenthBun x = row(0, 5);
        x.shelf(0, 0, 0);
        is("item(1, 0, 0)", x.item(1, 0, 0), NOTHING);
        is("item(0, 0, 5)", x.item(0, 0, 5), OUTSIDE);
        is("item(0, 1, 0)", x.item(0, 1, 0), OTHER);
        is("taken(0, 1)", x.taken(0, 1), OTHER);
        is("sheet(0, 0, -1)", x.sheet(0, 0, -1), BELOW_ZERO);
        is("act(0, 2, 1)", x.act(0, 2, 1), PARTED);
    }

    private static void sheet() {
        says(42, "SHEETS 0 to 3 are rows of bytes (sort 0), shorts (1), ints (2), longs (3) or booleans (4), 40 at most, or"
            + " missing (at first).");
        takes(0, 3, "sheet(sheet, 0, 1)", Villages::full, (x, v) -> x.sheet(v, 0, 1));
        takes(-1, 4, "sheet(0, sort, 1)", Villages::full, (x, v) -> x.sheet(0, v, 1));
        says(42, "A SHEET becomes a row of n of a sort, all 0, or missing (sort -1; n counts nothing then): 1. BAD: no such SHEET, sort,"
            + " n above 40; -14.");
        for (int s = 0; s <= 4; s++) {
            int sort = s;
            refused(ThirteenthBun.BAD, "sheet(0, " + sort + ", n)", Villages::full, (x, v) -> x.sheet(0, sort, v), 41,
                Integer.MAX_VALUE);
            refused(BELOW_ZERO, "sheet(0, " + sort + ", n)", Villages::full, (x, v) -> x.sheet(0, sort, v), -1,
                Integer.MIN_VALUE);
            ThirteenthBun x = Villages.full();
            is("sheet(2, " + sort + ", 40)", x.sheet(2, sort, 40), 1);
            is("its last item", x.item(2, sort, 39), 0);
            is("none behind it", x.item(2, sort, 40), OUTSIDE);
            x.write(2, 0, 1);
            is("sheet(2, " + sort + ", 1)", x.sheet(2, sort, 1), 1);
            is("all 0", x.item(2, sort, 0), 0);
            is("none behind it", x.item(2, sort, 1), OUTSIDE);
            is("sheet(2, " + sort + ", 0)", x.sheet(2, sort, 0), 1);
            is("an empty one isn't missing", x.item(2, sort, 0), OUTSIDE);
            is("sheet(2, " + sort + ", 40)", x.sheet(2, sort, 40), 1);
            is("all 0 again", x.item(2, sort, 39), 0);
        }
        int[] sizes = {0, 40, 41, -1, Integer.MAX_VALUE, Integer.MIN_VALUE};
        for (int n : sizes) {
            ThirteenthBun x = row(0, 3);
            is("sheet(0, -1, " + n + ")", x.sheet(0, -1, n), 1);
            is("it is missing", x.item(0, 0, 0), NOTHING);
        }
        says(42, "of several the first named: BAD (-1)");
        refused(ThirteenthBun.BAD, "sheet(sheet, 0, -1)", Villages::full, (x, v) -> x.sheet(v, 0, -1), -1, 4);
        refused(ThirteenthBun.BAD, "sheet(0, sort, -1)", Villages::full, (x, v) -> x.sheet(0, v, -1), -2, 5);
    }

    private static void write() {
        says(43, "Item i becomes v, narrowed to its sort (booleans: whether it is not 0): 1. BAD: no such SHEET; -11; -12.");
        takes(0, 3, "write(sheet, 0, 1)", Villages::full, (x, v) -> x.write(v, 0, 1));
        refused(NOTHING, "write(3, i, 1), missing", Villages::full, (x, v) -> x.write(3, v, 1), 0, -1, 40);
        for (int s = 0; s <= 4; s++) {
            int sort = s;
            refused(OUTSIDE, "write(0, i, 1) of 5", () -> row(sort, 5), (x, v) -> x.write(0, v, 1), 5, 6, -1, 40,
                Integer.MIN_VALUE, Integer.MAX_VALUE);
            refused(OUTSIDE, "write(0, i, 1) of none", () -> row(sort, 0), (x, v) -> x.write(0, v, 1), 0, -1);
            refused(OUTSIDE, "write(0, i, 1) of 40", () -> row(sort, 40), (x, v) -> x.write(0, v, 1), 40);
            ThirteenthBun x = row(sort, 40);
            is("write(0, 0, 1)", x.write(0, 0, 1), 1);
            is("write(0, 39, 1)", x.write(0, 39, 1), 1);
            is("the first", x.item(0, sort, 0), 1);
            is("the next", x.item(0, sort, 1), 0);
            is("the last", x.item(0, sort, 39), 1);
        }
        says(43, "of several the first named: BAD (-1)");
        refused(ThirteenthBun.BAD, "write(sheet, -1, 1)", Villages::full, (x, v) -> x.write(v, -1, 1), -1, 4);
        says(43, "-11 nothing where something is asked, -12 a place outside");
        refused(NOTHING, "write(3, -1, 1), missing", Villages::full, x -> x.write(3, -1, 1));
    }

    private static void narrowed() {
        says(43, "narrowed to its sort (booleans: whether it is not 0)");
        int[][] narrow = {
            // v, as a byte, as a short
            {0, 0, 0}, {1, 1, 1}, {-1, -1, -1}, {127, 127, 127}, {128, -128, 128}, {-128, -128, -128}, {-129, 127, -129}, {255, -1, 255},
            {256, 0, 256}, {257, 1, 257}, {32767, -1, 32767}, {32768, 0, -32768}, {-32768, 0, -32768}, {-32769, -1, 32767}, {65535, -1, -1},
            {65536, 0, 0}, {65537, 1, 1}, {Integer.MAX_VALUE, -1, -1}, {Integer.MIN_VALUE, 0, 0}};
        for (int[] n : narrow) {
            int[] want = {n[1], n[2], n[0], n[0], n[0] == 0 ? 0 : 1};
            for (int sort = 0; sort <= 4; sort++) {
                ThirteenthBun x = row(sort, 1);
                x.write(0, 0, n[0]);
                is(n[0] + " as sort " + sort, x.item(0, sort, 0), want[sort]);
            }
        }
    }

    private static void item() {
        says(44, "Item i, taken for a sort (0 to 4; of longs the lowest 32 bits; of booleans 1, 0). BAD: no such SHEET, sort; -13; -11;"
            + " -12. (An item may be as low as these, too.)");
        refused(ThirteenthBun.BAD, "item(sheet, 0, 0)", Villages::full, (x, v) -> x.item(v, 0, 0), -1, 4, Integer.MIN_VALUE,
            Integer.MAX_VALUE);
        refused(ThirteenthBun.BAD, "item(0, sort, 0)", Villages::full, (x, v) -> x.item(0, v, 0), -1, 5, Integer.MIN_VALUE,
            Integer.MAX_VALUE);
        int[] low = {-1, -11, -12, -13};
        for (int s = 0; s <= 4; s++) {
            int sort = s;
            refused(OUTSIDE, "item(0, " + sort + ", i) of 5", () -> row(sort, 5), (x, v) -> x.item(0, sort, v), 5, -1, 40,
                Integer.MIN_VALUE, Integer.MAX_VALUE);
            refused(OUTSIDE, "item(0, " + sort + ", i) of none", () -> row(sort, 0), (x, v) -> x.item(0, sort, v), 0, -1);
            refused(OTHER, "item(0, as, 0) of sort " + sort, () -> row(sort, 5), (x, v) -> x.item(0, v, 0), (sort + 1) % 5,
                (sort + 4) % 5);
            refused(NOTHING, "item(3, " + sort + ", i), missing", Villages::full, (x, v) -> x.item(3, sort, v), 0, -1, 40);
            asked(0, "item(0, " + sort + ", 39) of 40", () -> row(sort, 40), x -> x.item(0, sort, 39));
            for (int v : low) {
                ThirteenthBun x = row(sort, 1);
                x.write(0, 0, v);
                is("an item as low as " + v, x.item(0, sort, 0), sort == 4 ? 1 : v);
            }
        }
        says(44, "of several the first named: BAD (-1)");
        refused(ThirteenthBun.BAD, "item(sheet, 1, 99)", Villages::full, (x, v) -> x.item(v, 1, 99), -1, 4);
        refused(ThirteenthBun.BAD, "item(3, sort, -1), missing", Villages::full, (x, v) -> x.item(3, v, -1), -1, 5);
        says(44, "BAD: no such SHEET, sort; -13; -11; -12.");
        refused(OTHER, "item(0, as, 99) of bytes", Villages::full, (x, v) -> x.item(0, v, 99), 1, 2, 3, 4);
        refused(OTHER, "item(0, as, 0) of no bytes", () -> row(0, 0), (x, v) -> x.item(0, v, 0), 1, 4);
    }

    /** A sad HOUSE, called on at once, and one at which nobody would call; END; acts as bytes of SHEET 0. */
    private static ThirteenthBun acts(int end, int... acts) {
        ThirteenthBun x = Villages.sad();
        x.house(2, 0, 0, 1);
        x.ends(end);
        x.sheet(0, Villages.BYTES, acts.length);
        for (int i = 0; i < acts.length; i++) {
            x.write(0, i, acts[i]);
        }
        return x;
    }

    private static ThirteenthBun fourSheets() {
        ThirteenthBun x = Villages.sad();
        for (int sheet = 0; sheet < 4; sheet++) {
            x.sheet(sheet, Villages.BYTES, 1);
            x.write(sheet, 0, 1);
        }
        return x;
    }

    /** What goAll() and wouldBe() refuse alike. */
    private static void refusesItems(String name, Items items) {
        takes(0, 20, name + "(0, 0, n) of 20", () -> acts(16, new int[20]), (x, v) -> items.of(x, 0, 0, v));
        takes(0, 3, name + "(sheet, 0, 1)", EdgesOfHost::fourSheets, (x, v) -> items.of(x, v, 0, 1));
        for (int s = 1; s <= 4; s++) {
            int sort = s;
            refused(OTHER, name + "(0, 0, n) of sort " + sort, () -> row(sort, 5), (x, v) -> items.of(x, 0, 0, v), 0, 1, 20);
            refused(OTHER, name + "(0, i, 1) of sort " + sort, () -> row(sort, 5), (x, v) -> items.of(x, 0, v, 1), -1, 5);
        }
        refused(NOTHING, name + "(3, 0, n), missing", Villages::full, (x, v) -> items.of(x, 3, 0, v), 0, 1, 20);
        refused(NOTHING, name + "(3, i, 1), missing", Villages::full, (x, v) -> items.of(x, 3, v, 1), FAR);
        refused(OUTSIDE, name + "(0, i, 1) of 6", Villages::full, (x, v) -> items.of(x, 0, v, 1), 6, 40);
        refused(OUTSIDE, name + "(0, i, 1) of 6", Villages::full, (x, v) -> items.of(x, 0, v, 1), FAR);
        refused(OUTSIDE, name + "(0, i, 20) of 6", Villages::full, (x, v) -> items.of(x, 0, v, 20), FAR);
        refused(OUTSIDE, name + "(0, 0, 1) of none", () -> row(0, 0), x -> items.of(x, 0, 0, 1));
    }

    private static void goAll() {
        says(45, "n (0 to 20) items of a SHEET taken for bytes, from item i on, are ACTS, each followed by a NIGHT (what is none, or"
            + " when it is OVER, is left out): what these NIGHTS were WORTH together. BAD: no such SHEET, n; -13; -11; -12: what"
            + " stood ahead was done.");
        refusesItems("goAll", ThirteenthBun::goAll);
        is("goAll(0, 0, 0) of none", row(0, 0).goAll(0, 0, 0), 0);
        ThirteenthBun y = Villages.full();
        is("goAll(0, 5, 0)", y.goAll(0, 5, 0), 0);
        same("goAll of no items", y, Villages.full());
        says(45, "-12: what stood ahead was done.");
        ThirteenthBun x = acts(16, 1, 2, 1);
        is("goAll(0, 0, 4) of 3", x.goAll(0, 0, 4), OUTSIDE);
        int[] state = {3, 16, 11 + 1 + 2, 0, 2, 1};
        for (int what = 0; what < state.length; what++) {
            is("state(" + what + ")", x.state(what), state[what]);
        }
        is("goAll(0, 2, 2) of 3", x.goAll(0, 2, 2), OUTSIDE);
        is("score", x.state(2), 16);
        is("goAll(0, -1, 3)", x.goAll(0, -1, 3), OUTSIDE);
        is("nothing stood ahead", x.state(0), 4);
        says(45, "(what is none, or when it is OVER, is left out)");
        ThirteenthBun z = acts(3, 3, -1, 1, 127, -128, 0, 2, 1);
        is("goAll(0, 0, 8), three nights", z.goAll(0, 0, 8), 11 + 0 + 1);
        is("night", z.state(0), 3);
        is("goAll(0, 0, 8), over", z.goAll(0, 0, 8), 0);
        is("goAll(0, 0, 9), over", z.goAll(0, 0, 9), OUTSIDE);
        is("night", z.state(0), 3);
        says(45, "of several the first named: BAD (-1)");
        refused(ThirteenthBun.BAD, "goAll(3, -1, n), missing", Villages::full, (v, n) -> v.goAll(3, -1, n), -1, 21);
        refused(ThirteenthBun.BAD, "goAll(1, -1, n) of booleans", Villages::full, (v, n) -> v.goAll(1, -1, n), -1, 21);
        refused(ThirteenthBun.BAD, "goAll(0, 6, n)", Villages::full, (v, n) -> v.goAll(0, 6, n), -1, 21, Integer.MIN_VALUE,
            Integer.MAX_VALUE);
    }

    private static void wouldBe() {
        says(46, "n (0 to 20) items likewise: what they would be WORTH. BAD: no such SHEET, n; -13; -11; then, by items, -12; STATE: one"
            + " is no ACT, or it would be OVER ahead of it.");
        refusesItems("wouldBe", ThirteenthBun::wouldBe);
        asked(0, "wouldBe(0, 5, 0)", Villages::full, x -> x.wouldBe(0, 5, 0));
        asked(0, "wouldBe(0, 0, 0), over", Villages::fullAndOver, x -> x.wouldBe(0, 0, 0));
        says(46, "then, by items, -12; STATE: one is no ACT, or it would be OVER ahead of it.");
        asked(11 + 1 + 2, "wouldBe(0, 0, 3)", () -> acts(3, 1, 2, 1), x -> x.wouldBe(0, 0, 3));
        asked(11 + 0, "wouldBe(0, 2, 2)", () -> acts(2, 9, 9, 1, 0), x -> x.wouldBe(0, 2, 2));
        refused(ThirteenthBun.STATE, "wouldBe(0, 0, 3) of 2 nights", () -> acts(2, 1, 2, 1), x -> x.wouldBe(0, 0, 3));
        refused(ThirteenthBun.STATE, "wouldBe(0, 0, 9) of 2 nights", () -> acts(2, 1, 2, 1), x -> x.wouldBe(0, 0, 9));
        refused(ThirteenthBun.STATE, "wouldBe(0, 0, 1), over", Villages::fullAndOver, x -> x.wouldBe(0, 0, 1));
        refused(OUTSIDE, "wouldBe(0, 6, 1), over", Villages::fullAndOver, x -> x.wouldBe(0, 6, 1));
        refused(OUTSIDE, "wouldBe(0, 0, 4) of 3", () -> acts(16, 1, 2, 1), x -> x.wouldBe(0, 0, 4));
        refused(OUTSIDE, "wouldBe(0, 0, 4) of 3 nights", () -> acts(3, 1, 2, 1), x -> x.wouldBe(0, 0, 4));
        int[] noActs = {3, -1, 127, -128, 7};
        for (int act : noActs) {
            refused(ThirteenthBun.STATE, "wouldBe of an act of " + act, () -> acts(16, 1, act), (x, n) -> x.wouldBe(0, 0, n), 2, 3,
                20);
            is("wouldBe ahead of an act of " + act, acts(16, 1, act).wouldBe(0, 0, 1), 11);
        }
        says(46, "of several the first named: BAD (-1)");
        refused(ThirteenthBun.BAD, "wouldBe(3, -1, n), missing", Villages::full, (v, n) -> v.wouldBe(3, -1, n), -1, 21);
        refused(ThirteenthBun.BAD, "wouldBe(1, -1, n) of booleans", Villages::full, (v, n) -> v.wouldBe(1, -1, n), -1, 21);
        refused(ThirteenthBun.BAD, "wouldBe(0, 6, n), over", Villages::fullAndOver, (v, n) -> v.wouldBe(0, 6, n), -1, 21);
    }

    private static void shelf() {
        says(47, "A SHELF holds HOUSE n (what 0), the row of SHEET n (1; nothing, if missing), nothing (2): 1. BAD: no such SHELF, what,"
            + " thing.");
        takes(0, 2, "shelf(0, what, 3)", Villages::full, (x, v) -> x.shelf(0, v, 3));
        takes(0, 5, "shelf(1, 0, house)", Villages::full, (x, v) -> x.shelf(1, 0, v));
        takes(0, 4, "shelf(1, 0, house) of five", Villages::five, (x, v) -> x.shelf(1, 0, v));
        takes(0, 3, "shelf(0, 1, sheet)", Villages::full, (x, v) -> x.shelf(0, 1, v));
        refused(ThirteenthBun.BAD, "shelf(0, 0, house) of none", Villages::anew, (x, v) -> x.shelf(0, 0, v), -1, 0, 1);
        for (int w = 0; w <= 2; w++) {
            int what = w;
            takes(0, 3, "shelf(shelf, " + what + ", 0)", Villages::full, (x, v) -> x.shelf(v, what, 0));
        }
        ThirteenthBun x = Villages.full();
        is("shelf(1, 1, 3), missing", x.shelf(1, 1, 3), 1);
        is("it holds nothing", x.taken(1, 13), NOTHING);
        for (int n : FAR) {
            is("shelf(0, 0, 1)", x.shelf(0, 0, 1), 1);
            is("shelf(0, 2, " + n + ")", x.shelf(0, 2, n), 1);
            is("it holds nothing", x.taken(0, 0), NOTHING);
        }
        says(47, "SHELVES 0 to 3 hold a HOUSE (by its number; nothing, if there is no such one at the time), a SHEET's row, or nothing"
            + " (at first).");
        ThirteenthBun y = Villages.five();
        y.keep();
        y.house(2, 0, 0, 2);
        y.shelf(3, 0, 5);
        is("taken(3, 2)", y.taken(3, 2), 5);
        y.again();
        is("taken(3, 2), no such house now", y.taken(3, 2), NOTHING);
        is("act(3, 0, 9), no such house now", y.act(3, 0, 9), 0);
        y.house(1, 0, 0, 0);
        is("taken(3, 1), another one now", y.taken(3, 1), 5);
        ThirteenthBun z = row(2, 40);
        z.shelf(0, 1, 0);
        z.shelf(1, 1, 0);
        is("an int row of 40", z.taken(0, 12), 40);
        z.sheet(0, -1, 0);
        is("the row stays when the sheet is missing", z.taken(1, 12), 40);
        z.sheet(0, 4, 0);
        z.shelf(1, 1, 0);
        is("a row of none", z.taken(1, 14), 0);
    }

    private static void taken() {
        says(48, "A HOUSE is held as a thing of its KIND; n: its number, a: its LANE.");
        ThirteenthBun remade = Villages.sad();
        remade.shelf(0, 0, 0);
        for (int kind = 1; kind <= 5; kind++) {
            remade.remake(0, kind);
            is("taken(0, " + kind + ") of that kind", remade.taken(0, kind), 0);
            is("taken(0, " + (kind % 5 + 1) + ") of another", remade.taken(0, kind % 5 + 1), OTHER);
        }
        says(48, "What a SHELF holds taken for a thing of KIND as (0 to 5, or one under it): its number; for a row of sort as - 10 (as 10"
            + " to 14): how many items. BAD: no such SHELF, as; -13; -11.");
        refused(ThirteenthBun.BAD, "taken(shelf, 0)", Villages::full, (x, v) -> x.taken(v, 0), -1, 4, Integer.MIN_VALUE,
            Integer.MAX_VALUE);
        for (int s = 0; s <= 3; s++) {
            int shelf = s;
            refused(ThirteenthBun.BAD, "taken(" + shelf + ", as)", Villages::full, (x, v) -> x.taken(shelf, v), -1, 6, 9, 15,
                Integer.MIN_VALUE, Integer.MAX_VALUE);
        }
        int[] every = {0, 1, 2, 3, 4, 5, 10, 11, 12, 13, 14};
        refused(NOTHING, "taken(2, as), nothing", Villages::full, (x, v) -> x.taken(2, v), every);
        refused(OTHER, "taken(0, as) of trouble", Villages::full, (x, v) -> x.taken(0, v), 1, 4, 5, 10, 11, 12, 13, 14);
        refused(OTHER, "taken(1, as) of longs", Villages::full, (x, v) -> x.taken(1, v), 0, 1, 2, 3, 4, 5, 10, 11, 12, 14);
        refused(OTHER, "taken(3, as) of a sad one", Villages::full, (x, v) -> x.taken(3, v), 1, 3, 4, 5, 10, 14);
        asked(4, "taken(0, 0)", Villages::full, x -> x.taken(0, 0));
        asked(4, "taken(0, 2)", Villages::full, x -> x.taken(0, 2));
        asked(4, "taken(0, 3)", Villages::full, x -> x.taken(0, 3));
        asked(40, "taken(1, 13)", Villages::full, x -> x.taken(1, 13));
        asked(5, "taken(3, 2)", Villages::full, x -> x.taken(3, 2));
        for (int sort = 0; sort <= 4; sort++) {
            ThirteenthBun x = row(sort, 0);
            x.shelf(0, 1, 0);
            is("taken(0, " + (10 + sort) + ") of none", x.taken(0, 10 + sort), 0);
            x.sheet(0, sort, 40);
            x.shelf(0, 1, 0);
            is("taken(0, " + (10 + sort) + ") of 40", x.taken(0, 10 + sort), 40);
        }
        ThirteenthBun first = Villages.sad();
        first.shelf(0, 0, 0);
        is("taken(0, 0) of house 0", first.taken(0, 0), 0);
    }

    private static void noTrace(String call, ThirteenthBun x, int answer) {
        is(call, answer, 0);
        is("many(6) behind " + call, x.many(6), 0);
        is("trace(0) behind " + call, x.trace(0), ThirteenthBun.NONE);
    }

    private static void act() {
        says(49, "An ACT (0 to 3) of the thing on a SHELF, with x. 0, and no TRACE then: no such SHELF, act, nothing, a row.");
        int[] far = {-1, 4, Integer.MIN_VALUE, Integer.MAX_VALUE};
        for (int v : far) {
            ThirteenthBun x = Villages.full();
            is("a trace ahead", x.many(6) > 0 ? 1 : 0, 1);
            noTrace("act(" + v + ", 0, 5)", x, x.act(v, 0, 5));
            is("act(0, 0, 5)", x.act(0, 0, 5), (5 - 8) * 2);
            noTrace("act(0, " + v + ", 5)", x, x.act(0, v, 5));
        }
        for (int act = 0; act <= 3; act++) {
            ThirteenthBun x = Villages.full();
            noTrace("act(1, " + act + ", 5) of a row", x, x.act(1, act, 5));
            is("act(0, 0, 5)", x.act(0, 0, 5), (5 - 8) * 2);
            noTrace("act(2, " + act + ", 5) of nothing", x, x.act(2, act, 5));
            x.act(3, act, 5);
            is("act(3, " + act + ", 5) has a trace", x.many(6) > 0 ? 1 : 0, 1);
        }
    }

    /** HOUSE 0 of a KIND in LANE a, on SHELF 0. */
    private static ThirteenthBun first(int kind, int a) {
        ThirteenthBun x = new ThirteenthBun();
        x.house(kind, 0, 0, a);
        x.shelf(0, 0, 0);
        return x;
    }

    /** HOUSE 5 of a KIND in LANE a, on SHELF 0. */
    private static ThirteenthBun last(int kind, int a) {
        ThirteenthBun x = Villages.five();
        x.house(kind, 0, 0, a);
        x.shelf(0, 0, 5);
        return x;
    }

    private static void wraps() {
        says(49, "ACTS of a thing by its KIND, with a number x (ints that wrap)");
        int min = Integer.MIN_VALUE;
        int max = Integer.MAX_VALUE;
        is("house 5 knocks", last(2, 0).act(0, 0, min), max - 9);
        is("house 5 knocks", last(2, 0).act(0, 0, min + 9), max);
        is("house 5 knocks", last(2, 0).act(0, 0, min + 10), min);
        is("bride 0 knocks", first(1, 5).act(0, 0, max), min + 12);
        is("bride 0 knocks", first(1, 5).act(0, 0, max - 13), max);
        is("bride 0 knocks", first(1, 5).act(0, 0, max - 12), min);
        is("trouble 0 knocks", first(3, 5).act(0, 0, max), -2);
        is("trouble 0 knocks", first(3, 5).act(0, 0, min), 0);
        is("trouble 0 knocks", first(3, 5).act(0, 0, 1 << 30), min);
        is("sad 0 waits", first(2, 5).act(0, 1, min), max - 4 ^ 5);
        is("sad 0 waits", first(2, 5).act(0, 1, min + 4), max ^ 5);
        is("bride 0 waits", first(1, 5).act(0, 1, max), min + 12 ^ 5);
        is("lovell 5 waits", last(5, 5).act(0, 1, min), max - 9 ^ 5 ^ 12);
        is("bride 0 sits", first(1, 5).act(0, 3, max - 13), (max ^ 5) + 2 * ((max - 13) % 5));
        is("sad 5 sits", last(2, 0).act(0, 3, max), max - 10 + 2 * 7);
        is("farm 5 sits", last(4, 0).act(0, 3, min + 9), max + 2 * ((min + 9) % 10 - 1));
        is("trouble 0 sits", first(3, 1).act(0, 3, 1 << 30), ((1 << 30) - 1) * 2 + 1 - (-2 ^ 1));
        is("trouble 5 sits", last(3, 0).act(0, 3, (1 << 30) + 12), min + 4 + 2 * 6 + 10);
        is("trouble 5 sits", last(3, 0).act(0, 3, (1 << 30) + 9), max - 1 + 2 * 3 + 10);
        countsBelowZero(min, max);
    }

    private static void countsBelowZero(int min, int max) {
        says(49, "12 counts: what x leaves by (2 * n - a), below 0 if x is");
        is("sad 0 counts by -1", first(2, 1).act(0, 2, min), 0);
        is("sad 0 counts by -1", first(2, 1).act(0, 2, max), 0);
        is("sad 0 counts by -5", first(2, 5).act(0, 2, 9), 4);
        is("sad 0 counts by -5", first(2, 5).act(0, 2, -9), -4);
        is("sad 0 counts by -5", first(2, 5).act(0, 2, -10), 0);
        is("sad 5 counts by 10", last(2, 0).act(0, 2, 9), 9);
        is("sad 5 counts by 10", last(2, 0).act(0, 2, 10), 0);
        is("sad 5 counts by 10", last(2, 0).act(0, 2, -9), -9);
        is("sad 5 counts by 10", last(2, 0).act(0, 2, max), 7);
        is("sad 5 counts by 10", last(2, 0).act(0, 2, min), -8);
        says(49, "Quotients are cut towards 0.");
        is("sad 0 counts by -5", first(2, 5).act(0, 2, -11), -1);
        is("sad 5 counts by 10", last(2, 0).act(0, 2, -11), -1);
        says(49, "farm: 40 counts: super.counts(x) - 1.");
        is("farm 5 counts by 10", last(4, 0).act(0, 2, -9), -10);
        is("farm 5 counts by 10", last(4, 0).act(0, 2, 0), -1);
        is("lovell 5 counts by 10", last(5, 0).act(0, 2, 0), -1 + 5 - 10);
        is("lovell 0 counts by -1", first(5, 1).act(0, 2, min), 0 - 1 + 0);
    }

    private static void parted() {
        says(49, "(-15 if that is 0; that is all that act() answers then)");
        int[][] bodies = {{}, {13, 11, 20, 10, 12}, {13, 30, 11, 10, 12}, {51, 13, 30, 11, 50, 10, 12}, {13, 11, 10, 40, 12},
            {13, 60, 11, 10, 61, 40, 12}};
        int[] first = {0, 12, 12, 12, 40, 61};
        for (int kind = 1; kind <= 5; kind++) {
            ThirteenthBun x = first(kind, 0);
            is("kind " + kind + " counts by 0", x.act(0, 2, 9), PARTED);
            is("the first body", x.trace(0), first[kind]);
            is("kind " + kind + " sits by 0", x.act(0, 3, 9), PARTED);
            is("bodies that ran", x.many(6), bodies[kind].length);
            for (int i = 0; i < bodies[kind].length; i++) {
                is("body " + i, x.trace(i), bodies[kind][i]);
            }
            is("none behind", x.trace(bodies[kind].length), ThirteenthBun.NONE);
            is("kind " + kind + " waits without parting", x.act(0, 1, 0), kind == 1 ? 13 : kind == 5 ? 12 : 0);
            x.change(0, 3, 1);
            is("kind " + kind + " counts by -1", x.act(0, 2, 0), kind < 4 ? 0 : -1);
        }
        ThirteenthBun y = Villages.five();
        y.shelf(0, 0, 2);
        y.change(2, 3, 4);
        is("farm 2 in lane 4 counts by 0", y.act(0, 2, 1), PARTED);
        y.change(2, 3, 3);
        is("farm 2 in lane 3 counts by 1", y.act(0, 2, 1), -1);
        y.change(2, 3, 5);
        is("farm 2 in lane 5 counts by -1", y.act(0, 2, 1), -1);
        is("what is -15 by itself has a trace of all", last(2, 0).act(0, 0, -5), -15);
    }

    private static void trace() {
        says(50, "THE TRACE's i-th body. NONE.");
        ThirteenthBun x = Villages.full();
        int[] bodies = {51, 13, 30, 11, 50, 10, 12, 30, 11, 50, 10};
        is("many(6)", x.many(6), bodies.length);
        for (int i = 0; i < bodies.length; i++) {
            is("trace(" + i + ")", x.trace(i), bodies[i]);
        }
        refused(ThirteenthBun.NONE, "trace(i) of eleven", Villages::full, (v, i) -> v.trace(i), -1, 11, 29, 30, Integer.MIN_VALUE,
            Integer.MAX_VALUE);
        refused(ThirteenthBun.NONE, "trace(i) of none", Villages::five, (v, i) -> v.trace(i), -1, 0, 1);
        says(50, "THE TRACE: numbers of the bodies that ran in the latest act(), as they began (left first); the first 30 are kept.");
        ThirteenthBun one = first(2, 1);
        one.act(0, 3, 5);
        one.act(0, 0, 5);
        is("many(6) of the latest", one.many(6), 1);
        is("trace(0) of the latest", one.trace(0), 10);
        is("trace(1) of the latest", one.trace(1), ThirteenthBun.NONE);
        // No thing runs more than eleven bodies in an act, so all are kept.
        for (int kind = 1; kind <= 5; kind++) {
            ThirteenthBun y = first(kind, 1);
            for (int act = 0; act <= 3; act++) {
                y.act(0, act, 5);
                is("bodies of kind " + kind, y.many(6) <= 11 && y.trace(y.many(6) - 1) > 0 ? 1 : 0, 1);
            }
        }
    }

    private static void many() {
        says(51, "6 bodies of THE TRACE (those kept, 30 at most). BAD: another what.");
        takes(0, 6, "many(what)", Villages::full, (x, v) -> x.many(v));
        ThirteenthBun x = Villages.full();
        int[] full = {6, 8, Integer.bitCount(x.state(5)), 6, 4, 200, 11};
        for (int what = 0; what <= 6; what++) {
            int with = what;
            asked(full[what], "many(" + what + ")", Villages::full, v -> v.many(with));
            asked(0, "many(" + what + ") of a new object", Villages::anew, v -> v.many(with));
        }
        for (int k = 0; k < 6; k++) {
            x.change(k, 5, 1);
        }
        is("many(2), all called on", x.many(2), 6);
        is("what judges no rows", x.prove(0), 0);
        is("many(4)", x.many(4), 0);
    }

    private static void keep() {
        says(52, "All but THE TAPE, ROWS, SHEETS, SHELVES, THE TRACE is kept: 1.");
        ThirteenthBun empty = new ThirteenthBun();
        is("keep() of a new object", empty.keep(), 1);
        is("again() of it: no houses", empty.again(), 0);
        ThirteenthBun x = Villages.full();
        is("keep() of a full one", x.keep(), 1);
        ThirteenthBun y = Villages.fullAndOver();
        is("keep() when it is over", y.keep(), 1);
        changeAll(x);
        is("again() of the full one", x.again(), 6);
        ThirteenthBun z = Villages.full();
        z.keep();
        z.rules();
        z.prove(0);
        changeHost(z);
        z.again();
        same("again() of the full one", x, z);
    }

    private static void changeAll(ThirteenthBun x) {
        Check.tell(x, "");
        Check.tell(x, "sad send; sad hold;");
        x.ends(16);
        x.dusk(15, 0);
        x.dusk(4, 9);
        x.lane(5, 0, 9);
        x.lane(5, 1, 0);
        x.shop(0, 9);
        x.shop(1, 99);
        x.seed(-1);
        x.forget();
        x.report(4, 0, 1, 99);
        for (int k = 0; k < 6; k++) {
            x.change(k, 1, 33);
            x.change(k, 2, 4);
            x.change(k, 3, 4);
            x.change(k, 4, 4);
            x.change(k, 5, k % 2);
            x.remake(k, 5 - k % 2);
        }
        x.lot();
        x.prove(0);
        changeHost(x);
    }

    private static void changeHost(ThirteenthBun x) {
        x.sheet(0, 1, 1);
        x.shelf(0, 2, 0);
        x.act(3, 0, 1);
    }

    private static void whatAgainLeaves() {
        says(52, "All but THE TAPE, ROWS, SHEETS, SHELVES, THE TRACE is kept: 1.");
        ThirteenthBun x = Villages.full();
        ThirteenthBun y = Villages.full();
        x.keep();
        y.keep();
        x.again();
        same("again() right behind keep()", x, y);
        ThirteenthBun z = Villages.anew();
        z.keep();
        z.house(2, 0, 9, 1);
        z.prove(4);
        z.sheet(3, Villages.INTS, 2);
        z.write(3, 1, Integer.MIN_VALUE);
        z.shelf(3, 1, 3);
        z.shelf(0, 0, 0);
        z.act(0, 0, 1);
        Check.feed(z, "sad hold;");
        is("again()", z.again(), 0);
        is("rows", z.many(4), 4);
        is("row(0, 0)", z.row(0, 0), 1);
        is("bytes of the tape", z.many(5), 9);
        is("bodies of the trace", z.many(6), 1);
        is("trace(0)", z.trace(0), 10);
        is("item(3, 2, 1)", z.item(3, Villages.INTS, 1), Integer.MIN_VALUE);
        is("taken(3, 12)", z.taken(3, 12), 2);
        is("taken(0, 0), no such house now", z.taken(0, 0), NOTHING);
        is("rules()", z.rules(), 1);
    }

    private static void again() {
        says(53, "It becomes what was kept latest (which stays): how many HOUSES. NONE: nothing is kept.");
        refused(ThirteenthBun.NONE, "again() of a new object", Villages::anew, ThirteenthBun::again);
        refused(ThirteenthBun.NONE, "again() where nothing is kept", Villages::five, ThirteenthBun::again);
        ThirteenthBun x = Villages.sad();
        x.keep();
        x.house(1, 1, 1, 1);
        is("many(0)", x.many(0), 2);
        is("again()", x.again(), 1);
        x.house(1, 1, 1, 1);
        x.keep();
        for (int k = 2; k < 6; k++) {
            x.house(1, 1, 1, 1);
        }
        is("again(): the latest", x.again(), 2);
        is("many(0)", x.many(0), 2);
        for (int turn = 0; turn < 3; turn++) {
            is("a night", x.night(), 11);
            is("again(): it stays", x.again(), 2);
            is("night", x.state(0), 0);
        }
        for (int k = 2; k < 6; k++) {
            is("house " + k, x.house(1, 1, 1, 1), k);
        }
        is("the seventh", x.house(1, 1, 1, 1), ThirteenthBun.FULL);
    }
}
