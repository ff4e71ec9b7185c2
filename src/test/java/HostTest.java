/** Promises 42 to 53: sheets, shelves, things with acts, what is kept. */
public final class HostTest {
    public static void main(String[] args) {
        sheet();
        write();
        item();
        goAll();
        wouldBe();
        shelf();
        taken();
        actsByHand();
        actsByFormula();
        parted();
        trace();
        many();
        keepAndAgain();
        whatIsNotKept();
        Check.end();
    }

    private static void due(String call, long got, long want) {
        Check.due(call, got, want);
    }

    private static void sheet() {
        ThirteenthBun x = new ThirteenthBun();
        due("42 no such sheet", x.sheet(-1, 0, 1), -1);
        due("42 no such sheet", x.sheet(4, 0, 1), -1);
        due("42 no such sort", x.sheet(0, 5, 1), -1);
        due("42 no such sort", x.sheet(0, -2, 1), -1);
        due("42 above 40", x.sheet(0, 0, 41), -1);
        due("42 below 0", x.sheet(0, 0, -1), -14);
        due("42 below 0", x.sheet(0, 3, Integer.MIN_VALUE), -14);
        due("42 bad ahead of -14", x.sheet(4, 0, -1), -1);
        due("42 bad ahead of -14", x.sheet(0, 5, -1), -1);
        due("42 still missing", x.item(0, 0, 0), -11);
        for (int sort = 0; sort < 5; sort++) {
            due("42 a row", x.sheet(sort % 4, sort, 40), 1);
            due("42 all 0", x.item(sort % 4, sort, 39), 0);
            due("42 40 of them", x.item(sort % 4, sort, 40), -12);
        }
        x.write(1, 3, 77);
        due("42 refused: it stays", x.sheet(1, 2, -1), -14);
        due("42 refused: it stays", x.sheet(1, 2, 41), -1);
        due("42 refused: it stays", x.item(1, 1, 3), 77);
        due("42 anew", x.sheet(1, 1, 9), 1);
        due("42 all 0", x.item(1, 1, 3), 0);
        due("42 of none", x.sheet(1, 2, 0), 1);
        due("42 of none", x.item(1, 2, 0), -12);
        due("42 missing", x.sheet(1, -1, 99), 1);
        due("42 missing", x.item(1, 2, 0), -11);
        due("42 n counts nothing", x.sheet(1, -1, -99), 1);
    }

    private static void write() {
        ThirteenthBun x = new ThirteenthBun();
        due("43 no such sheet", x.write(4, 0, 0), -1);
        due("43 no such sheet", x.write(-1, 0, 0), -1);
        due("43 missing", x.write(0, 0, 0), -11);
        due("43 missing ahead of outside", x.write(0, 99, 0), -11);
        int[] values = {0, 1, -1, 127, 128, 255, 256, 300, -129, 32767, 32768, 65536, 70000, Integer.MAX_VALUE, Integer.MIN_VALUE};
        for (int sort = 0; sort < 5; sort++) {
            x.sheet(0, sort, 2);
            due("43 outside", x.write(0, 2, 1), -12);
            due("43 outside", x.write(0, -1, 1), -12);
            due("43 outside", x.write(0, Integer.MAX_VALUE, 1), -12);
            for (int v : values) {
                int want = sort == 0 ? (byte) v : sort == 1 ? (short) v : sort == 4 ? (v == 0 ? 0 : 1) : v;
                due("43 written", x.write(0, 1, v), 1);
                due("43 narrowed " + v + " to sort " + sort, x.item(0, sort, 1), want);
                due("43 the other item", x.item(0, sort, 0), 0);
            }
        }
    }

    private static void item() {
        ThirteenthBun x = new ThirteenthBun();
        due("44 no such sheet", x.item(4, 0, 0), -1);
        due("44 no such sheet", x.item(-1, 0, 0), -1);
        due("44 no such sort", x.item(0, -1, 0), -1);
        due("44 no such sort", x.item(0, 5, 0), -1);
        due("44 missing ahead of outside", x.item(0, 0, -5), -11);
        for (int sort = 0; sort < 5; sort++) {
            x.sheet(0, sort, 3);
            for (int as = 0; as < 5; as++) {
                due("44 taken for", x.item(0, as, 2), as == sort ? 0 : -13);
                due("44 another sort ahead of outside", x.item(0, as, 3), as == sort ? -12 : -13);
                due("44 outside", x.item(0, as, -1), as == sort ? -12 : -13);
            }
        }
    }

    /** Houses: a sad one in lane 0 that is called on at once, one in lane 1 that is not. */
    private static ThirteenthBun two() {
        ThirteenthBun x = new ThirteenthBun();
        x.house(2, 0, 9, 0);
        x.house(2, 0, 0, 1);
        x.lane(1, 1, 14);
        x.ends(6);
        x.sheet(0, 0, 6);
        int[] acts = {1, 3, 2, -1, 0, 1};
        for (int i = 0; i < acts.length; i++) {
            x.write(0, i, acts[i]);
        }
        return x;
    }

    private static void goAll() {
        ThirteenthBun x = two();
        due("45 no such sheet", x.goAll(4, 0, 1), -1);
        due("45 no such sheet", x.goAll(-1, 0, 1), -1);
        due("45 no such n", x.goAll(0, 0, -1), -1);
        due("45 no such n", x.goAll(0, 0, 21), -1);
        due("45 bad ahead of missing", x.goAll(1, 0, 21), -1);
        due("45 missing", x.goAll(1, 0, 1), -11);
        due("45 missing, even of none", x.goAll(1, 0, 0), -11);
        x.sheet(2, 4, 6);
        due("45 another sort", x.goAll(2, 0, 1), -13);
        due("45 another sort ahead of outside", x.goAll(2, 9, 1), -13);
        due("45 none", x.goAll(0, 0, 0), 0);
        due("45 none, from nowhere", x.goAll(0, 99, 0), 0);
        due("45 outside", x.goAll(0, -1, 3), -12);
        due("45 outside", x.goAll(0, 6, 1), -12);
        due("45 outside", x.goAll(0, Integer.MAX_VALUE, 2), -12);
        due("45 outside", x.goAll(0, Integer.MIN_VALUE, 2), -12);
        due("45 nothing was done yet", x.state(0), 0);
        due("45 what is no act is left out", x.goAll(0, 0, 5), 11 + 1);
        due("45 three nights", x.state(0), 3);
        due("45 score", x.state(2), 12);
        due("45 what stood ahead was done", x.goAll(0, 4, 20), -12);
        due("45 two nights", x.state(0), 5);
        due("45 score", x.state(2), 14);
        due("45 then it is over", x.goAll(0, 0, 6), 2);
        due("45 over", x.state(3), 1);
        due("45 left out, as it is over", x.goAll(0, 0, 6), 0);
        due("45 outside, though it is over", x.goAll(0, 0, 7), -12);
        due("45 no more nights", x.state(0), 6);
    }

    private static void wouldBe() {
        ThirteenthBun x = two();
        due("46 no such sheet", x.wouldBe(4, 0, 1), -1);
        due("46 no such sheet", x.wouldBe(-1, 0, 1), -1);
        due("46 no such n", x.wouldBe(0, 0, -1), -1);
        due("46 no such n", x.wouldBe(0, 0, 21), -1);
        due("46 bad ahead of missing", x.wouldBe(1, 0, 21), -1);
        due("46 missing", x.wouldBe(1, 0, 0), -11);
        x.sheet(2, 1, 6);
        due("46 another sort", x.wouldBe(2, 0, 1), -13);
        due("46 none", x.wouldBe(0, 77, 0), 0);
        due("46 outside", x.wouldBe(0, 6, 1), -12);
        due("46 outside", x.wouldBe(0, -1, 1), -12);
        due("46 outside", x.wouldBe(0, Integer.MIN_VALUE, 1), -12);
        due("46 one", x.wouldBe(0, 0, 1), 11);
        due("46 no act", x.wouldBe(0, 0, 2), -4);
        due("46 no act ahead of outside", x.wouldBe(0, 0, 20), -4);
        due("46 outside ahead of none", x.wouldBe(0, 4, 3), -12);
        due("46 two", x.wouldBe(0, 4, 2), 11);
        due("46 changes nothing", x.state(0), 0);
        due("46 changes nothing", x.state(5), 0);
        due("46 changes nothing", x.state(2), 0);
        x.sheet(3, 0, 8);
        due("46 till it is over", x.wouldBe(3, 0, 6), 0);
        due("46 it would be over", x.wouldBe(3, 0, 7), -4);
        due("46 over ahead of outside", x.wouldBe(3, 1, 8), -4);
        due("46 outside, though it would be over", x.wouldBe(3, 2, 7), -12);
        due("46 the same as goAll", x.goAll(0, 4, 2), 11);
    }

    private static void shelf() {
        ThirteenthBun x = two();
        due("47 no such shelf", x.shelf(4, 0, 0), -1);
        due("47 no such shelf", x.shelf(-1, 2, 0), -1);
        due("47 no such what", x.shelf(0, 3, 0), -1);
        due("47 no such what", x.shelf(0, -1, 0), -1);
        due("47 no such house", x.shelf(0, 0, 2), -1);
        due("47 no such house", x.shelf(0, 0, -1), -1);
        due("47 no such sheet", x.shelf(0, 1, 4), -1);
        due("47 no such sheet", x.shelf(0, 1, -1), -1);
        due("47 a house", x.shelf(0, 0, 1), 1);
        due("47 a house", x.taken(0, 0), 1);
        due("47 refused: it stays", x.shelf(0, 0, 2), -1);
        due("47 refused: it stays", x.taken(0, 0), 1);
        due("47 a row", x.shelf(0, 1, 0), 1);
        due("47 a row", x.taken(0, 10), 6);
        due("47 a missing row", x.shelf(0, 1, 3), 1);
        due("47 nothing then", x.taken(0, 10), -11);
        x.shelf(0, 0, 0);
        due("47 nothing", x.shelf(0, 2, 99), 1);
        due("47 nothing", x.taken(0, 0), -11);
        due("47 the last shelf", x.shelf(3, 0, 0), 1);
        due("47 others hold nothing", x.taken(2, 0), -11);
    }

    private static void taken() {
        ThirteenthBun x = new ThirteenthBun();
        for (int kind = 5; kind >= 1; kind--) {
            x.house(kind, 0, 0, 0);
        }
        int[][] above = {{0, 1}, {0, 2}, {0, 2, 3}, {0, 4}, {0, 4, 5}};
        for (int kind = 1; kind <= 5; kind++) {
            x.shelf(1, 0, 5 - kind);
            for (int as = 0; as <= 14; as++) {
                int want = as > 5 && as < 10 ? -1 : -13;
                for (int a : above[kind - 1]) {
                    want = a == as ? 5 - kind : want;
                }
                due("48 kind " + kind + " as " + as, x.taken(1, as), want);
            }
        }
        due("48 it is remade", x.remake(0, 1), 5);
        x.shelf(1, 0, 0);
        due("48 a bride now", x.taken(1, 1), 0);
        for (int sort = 0; sort < 5; sort++) {
            x.sheet(0, sort, 7 + sort);
            x.shelf(2, 1, 0);
            for (int as = 0; as <= 14; as++) {
                int want = as > 5 && as < 10 ? -1 : as == sort + 10 ? 7 + sort : -13;
                due("48 sort " + sort + " as " + as, x.taken(2, as), want);
            }
        }
        due("48 the row stays on the shelf", x.sheet(0, 1, 3), 1);
        due("48 the row stays on the shelf", x.taken(2, 14), 11);
        int[] all = {0, 1, 2, 3, 4, 5, 10, 11, 12, 13, 14};
        for (int as : all) {
            due("48 nothing", x.taken(0, as), -11);
        }
        due("48 no such as", x.taken(0, -1), -1);
        due("48 no such as", x.taken(0, 6), -1);
        due("48 no such as", x.taken(0, 9), -1);
        due("48 no such as", x.taken(0, 15), -1);
        due("48 no such shelf", x.taken(4, 0), -1);
        due("48 no such shelf", x.taken(-1, 0), -1);
    }

    private static void acts(ThirteenthBun x, int act, int at, int want, int... bodies) {
        due("49 act " + act + " with " + at, x.act(0, act, at), want);
        due("50 how many bodies", x.many(6), bodies.length);
        for (int i = 0; i < bodies.length; i++) {
            due("50 body " + i, x.trace(i), bodies[i]);
        }
        due("50 none behind", x.trace(bodies.length), ThirteenthBun.NONE);
        due("50 none ahead", x.trace(-1), ThirteenthBun.NONE);
    }

    /** HOUSE 2 of a KIND in LANE 1, on SHELF 0: n is 2, a is 1, 2 * n - a is 3. */
    private static ThirteenthBun secondOf(int kind) {
        ThirteenthBun x = new ThirteenthBun();
        x.house(1, 0, 0, 0);
        x.house(1, 0, 0, 0);
        x.house(kind, 0, 0, 1);
        x.shelf(0, 0, 2);
        return x;
    }

    private static void actsByHand() {
        ThirteenthBun bride = secondOf(1);
        acts(bride, 0, 10, 10 - 4 + 13, 20, 10);
        acts(bride, 1, 10, 19 ^ 1, 11, 20, 10);
        acts(bride, 2, 10, 1, 12);
        acts(bride, 2, -10, -1, 12);
        acts(bride, 3, 10, 18 + 2, 13, 11, 20, 10, 12);
        ThirteenthBun sad = secondOf(2);
        acts(sad, 0, 10, 6, 10);
        acts(sad, 1, 10, 5 ^ 1, 30, 11, 10);
        acts(sad, 2, 11, 2, 12);
        acts(sad, 3, 11, (6 ^ 1) + 4, 13, 30, 11, 10, 12);
        ThirteenthBun trouble = secondOf(3);
        acts(trouble, 0, 10, 12, 50, 10);
        acts(trouble, 1, 10, 10 ^ 1, 30, 11, 50, 10);
        acts(trouble, 2, 10, 1, 12);
        // waits(10) is 11, counts(10) is 1; waits(2) is (1 - 4) * 2 ^ 1, which is -5.
        acts(trouble, 3, 10, 11 + 2 + 5, 51, 13, 30, 11, 50, 10, 12, 30, 11, 50, 10);
        ThirteenthBun farm = secondOf(4);
        acts(farm, 0, 10, 6, 10);
        acts(farm, 1, 10, 6 ^ 1, 11, 10);
        acts(farm, 2, 10, 0, 40, 12);
        acts(farm, 3, 10, 7, 13, 11, 10, 40, 12);
        ThirteenthBun lovell = secondOf(5);
        acts(lovell, 0, 10, 6, 10);
        acts(lovell, 1, 10, 6 ^ 1 ^ 12, 60, 11, 10);
        acts(lovell, 2, 10, 0 - 2, 61, 40, 12, 10);
        acts(lovell, 3, 10, 11 - 4, 13, 60, 11, 10, 61, 40, 12, 10);
        lovell.change(2, 3, 5);
        acts(lovell, 2, 10, 10 % -1 - 1 - 2, 61, 40, 12, 10);
        acts(lovell, 2, Integer.MIN_VALUE, -3, 61, 40, 12, 10);
        lovell.remake(2, 2);
        acts(lovell, 1, 10, 10 - 5 - 4 ^ 5, 30, 11, 10);
    }

    private static void actsByFormula() {
        int[] at = {0, 1, -1, 7, 1000, Integer.MAX_VALUE, Integer.MIN_VALUE, Integer.MIN_VALUE + 3, 1 << 30};
        for (int x : at) {
            ThirteenthBun trouble = secondOf(3);
            due("49 wraps", trouble.act(0, 0, x), (x - 4) * 2);
            due("49 wraps", trouble.act(0, 1, x), (x - 1 - 4) * 2 ^ 1);
            due("49 wraps", trouble.act(0, 2, x), x % 3);
            due("49 wraps", trouble.act(0, 3, x), ((x - 5) * 2 ^ 1) + 2 * (x % 3) - -5);
            ThirteenthBun bride = secondOf(1);
            due("49 wraps", bride.act(0, 3, x), (x - 4 + 13 ^ 1) + 2 * (x % 3));
        }
    }

    private static void parted() {
        int[][] bodies = {{}, {13, 11, 20, 10, 12}, {13, 30, 11, 10, 12}, {51, 13, 30, 11, 50, 10, 12},
            {13, 11, 10, 40, 12}, {13, 60, 11, 10, 61, 40, 12}};
        for (int kind = 1; kind <= 5; kind++) {
            ThirteenthBun x = secondOf(kind);
            x.change(2, 3, 4);
            acts(x, 3, 9, -15, bodies[kind]);
            due("49 knocks parts nothing", x.act(0, 0, 4) == -15 ? 1 : 0, 0);
        }
        ThirteenthBun x = secondOf(5);
        x.change(2, 3, 4);
        acts(x, 2, 9, -15, 61, 40, 12);
        x.change(2, 3, 3);
        acts(x, 2, 9, 9 % 1 - 1 + 2 - 4, 61, 40, 12, 10);
        // -15 can also be what comes of it.
        acts(secondOf(2), 0, -11, -15, 10);
    }

    private static void trace() {
        ThirteenthBun x = secondOf(3);
        x.sheet(0, 0, 4);
        x.shelf(1, 1, 0);
        int[][] none = {{4, 0}, {-1, 0}, {0, 4}, {0, -1}, {1, 0}, {2, 0}};
        for (int[] n : none) {
            due("50 a trace", x.act(0, 3, 5) == 0 ? 0 : x.many(6), 11);
            due("49 none", x.act(n[0], n[1], 5), 0);
            due("50 none then", x.many(6), 0);
            due("50 none then", x.trace(0), ThirteenthBun.NONE);
        }
        x.act(0, 0, 5);
        x.house(4, 0, 0, 0);
        x.shelf(0, 0, 3);
        x.remake(2, 5);
        x.taken(0, 0);
        due("50 the latest act stays", x.trace(0), 50);
        due("50 the latest act stays", x.many(6), 2);
    }

    private static void many() {
        ThirteenthBun x = two();
        x.report(0, 0, 1, 1);
        x.report(0, 0, 1, 1);
        Check.tell(x, "house give; sad give; farm give;");
        Check.feed(x, "farm");
        x.prove(4);
        x.shelf(0, 0, 0);
        x.act(0, 3, 9);
        x.night();
        int[] many = {2, 3, 1, 2, 4, 4, 5};
        for (int what = 0; what < many.length; what++) {
            due("51 many " + what, x.many(what), what == 6 ? 0 : many[what]);
            due("51 parted by 0 is none of these", x.act(0, 1, 9), 9 - 0);
            due("51 bodies", x.many(6), 3);
            x.act(3, 0, 0);
        }
        due("51 bad", x.many(-1), -1);
        due("51 bad", x.many(7), -1);
    }

    private static void keepAndAgain() {
        ThirteenthBun x = two();
        due("53 nothing is kept", x.again(), ThirteenthBun.NONE);
        due("53 refused: nothing changes", x.many(0), 2);
        x.dusk(3, 9);
        x.lane(2, 0, 3);
        x.lane(2, 1, 3);
        x.report(4, 1, 2, 3);
        Check.tell(x, "sad if number = 1 hold;");
        x.seed(99);
        x.night();
        x.change(1, 4, 6);
        due("52 kept", x.keep(), 1);
        int[] state = new int[9];
        int[] house = new int[10];
        for (int what = 0; what < 9; what++) {
            state[what] = x.state(what);
        }
        for (int what = 0; what < 10; what++) {
            house[what] = x.houseOf(1, what);
        }
        for (int turn = 0; turn < 2; turn++) {
            x.house(5, 1, 1, 1);
            x.change(1, 1, 44);
            x.change(1, 2, 4);
            x.change(1, 3, 4);
            x.change(1, 4, 4);
            x.change(1, 5, 1);
            x.remake(1, 4);
            x.dusk(3, 8);
            x.lane(2, 0, 8);
            x.lane(2, 1, 8);
            x.shop(0, 8);
            x.shop(1, 8);
            x.ends(9);
            x.night();
            x.forget();
            x.report(1, 0, 9, 9);
            x.report(1, 0, 9, 9);
            Check.tell(x, turn == 0 ? "" : "house send; sad send; farm send; farm give;");
            x.seed(4);
            if (turn == 1) {
                x.anew();
            }
            due("53 how many houses", x.again(), 2);
            for (int what = 0; what < 9; what++) {
                due("53 state " + what, x.state(what), state[what]);
            }
            for (int what = 0; what < 10; what++) {
                due("53 house, " + what, x.houseOf(1, what), house[what]);
            }
            due("53 houses", x.houseOf(2, 0), ThirteenthBun.BAD);
            due("53 dusk", x.dusk(3, 9), 9);
            due("53 lamps", x.laneOf(2, 0), 3);
            due("53 dry", x.laneOf(2, 1), 3);
            due("53 rules", x.many(1), 1);
            due("53 reports", x.many(3), 1);
            due("53 the report", x.stories(3), 1);
            due("53 z", x.seed(99), 99);
        }
        x.night();
        x.keep();
        x.night();
        due("53 the latest", x.again() + x.state(0), 2 + 2);
    }

    private static void whatIsNotKept() {
        ThirteenthBun x = two();
        x.keep();
        x.house(4, 0, 0, 1);
        x.shelf(0, 0, 2);
        x.sheet(1, 2, 5);
        x.write(1, 4, 1234);
        x.shelf(1, 1, 1);
        Check.feed(x, "sad hold;");
        x.prove(3);
        x.act(0, 0, 1);
        due("53 how many houses", x.again(), 2);
        due("53 the sheet stays", x.item(1, 2, 4), 1234);
        due("53 the row stays", x.taken(1, 12), 5);
        due("53 rows stay", x.many(4), 3);
        due("53 the trace stays", x.trace(0), 10);
        due("53 the tape stays", x.rules(), 1);
        due("53 there is no such house now", x.taken(0, 0), -11);
        due("53 there is no such house now", x.act(0, 0, 1), 0);
        due("53 nor a trace of it", x.many(6), 0);
        due("53 another one of that number", x.house(1, 0, 0, 3), 2);
        due("53 the shelf holds that", x.taken(0, 1), 2);
        due("53 it is no farm", x.taken(0, 4), -13);
        due("53 it is new", x.houseOf(2, 4) + x.houseOf(2, 5), 0);
        x.change(2, 4, 9);
        x.change(2, 5, 1);
        x.again();
        x.house(1, 0, 0, 3);
        due("53 it is new again", x.houseOf(2, 4) + x.houseOf(2, 5), 0);
    }
}
