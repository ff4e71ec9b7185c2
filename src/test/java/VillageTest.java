/** Promises 1 to 12: a new object, the village, houses. */
public final class VillageTest {
    public static void main(String[] args) {
        aNewObject();
        house();
        houseOfDrawsAndAsks();
        houseOfTheRest();
        change();
        remake();
        dusk();
        lanes();
        shop();
        ends();
        anew();
        state();
        Check.end();
    }

    private static void due(String call, long got, long want) {
        Check.due(call, got, want);
    }

    private static void aNewObject() {
        ThirteenthBun x = new ThirteenthBun();
        int[] state = {0, 12, 0, 0, 0, 0, 4, 0, 26};
        for (int what = 0; what < state.length; what++) {
            due("1 state " + what, x.state(what), state[what]);
        }
        for (int what = 0; what <= 6; what++) {
            due("1 many " + what, x.many(what), 0);
        }
        for (int g = 0; g < 6; g++) {
            due("1 lamps", x.laneOf(g, 0), 0);
            due("1 dry", x.laneOf(g, 1), 6);
        }
        for (int i = 0; i < 4; i++) {
            due("1 sheets are missing", x.item(i, 0, 0), -11);
            due("1 shelves hold nothing", x.taken(i, 0), -11);
        }
        for (int night = 0; night < 16; night++) {
            due("1 dusk", x.dusk(night, 0), 4);
        }
        due("1 nothing is kept", x.again(), ThirteenthBun.NONE);
        due("1 z", x.seed(0), 1);
        due("1 no rows", x.row(0, 0), -9);
        due("1 no trace", x.trace(0), ThirteenthBun.NONE);
        ThirteenthBun y = new ThirteenthBun();
        due("1 objects share nothing", y.dusk(3, 0), 4);
        due("1 objects share nothing", y.seed(0), 1);
    }

    private static void house() {
        ThirteenthBun x = new ThirteenthBun();
        int[][] bad = {{0, 1, 1, 1}, {6, 1, 1, 1}, {-1, 1, 1, 1}, {1, -1, 1, 1}, {1, 61, 1, 1}, {1, 1, -1, 1},
            {1, 1, 10, 1}, {1, 1, 1, -1}, {1, 1, 1, 6}, {Integer.MAX_VALUE, 1, 1, 1}, {1, 1, 1, Integer.MIN_VALUE}};
        int[][] good = {{1, 0, 0, 0}, {5, 60, 9, 5}, {2, 30, 4, 2}, {3, 1, 1, 1}, {4, 2, 2, 3}, {1, 5, 6, 4}};
        for (int[] h : bad) {
            due("2 bad", x.house(h[0], h[1], h[2], h[3]), ThirteenthBun.BAD);
        }
        due("2 refused ones aren't there", x.many(0), 0);
        for (int k = 0; k < good.length; k++) {
            int[] h = good[k];
            due("2 its number", x.house(h[0], h[1], h[2], h[3]), k);
            for (int what = 0; what < 4; what++) {
                due("2 as told", x.houseOf(k, what), h[what]);
            }
            due("2 no buns", x.houseOf(k, 4), 0);
            due("2 not called", x.houseOf(k, 5), 0);
            due("2 many", x.many(0), k + 1);
        }
        due("2 full", x.house(1, 1, 1, 1), ThirteenthBun.FULL);
        due("2 bad ahead of full", x.house(0, 1, 1, 1), ThirteenthBun.BAD);
        due("2 still six", x.many(0), 6);
    }

    /** Houses 0 to 4 of each KIND, 7 of GRIEF, in lanes of their number. */
    private static ThirteenthBun ofEachKind(int rain) {
        ThirteenthBun x = new ThirteenthBun();
        for (int kind = 1; kind <= 5; kind++) {
            x.house(kind, 0, 7, kind - 1);
        }
        x.shop(0, rain);
        return x;
    }

    private static void houseOfDrawsAndAsks() {
        int[] draws = {4, 18, 21, 7, 0};
        int[] asks = {13, 6, 8, 24, 15};
        ThirteenthBun x = ofEachKind(4);
        for (int k = 0; k < 5; k++) {
            due("3 draws", x.houseOf(k, 6), draws[k]);
            due("3 asks", x.houseOf(k, 7), asks[k]);
        }
        due("3 a farm by rain", x.shop(0, 9), 4);
        due("3 a farm by rain", x.houseOf(3, 6), 9);
        due("3 a bride by rain", x.houseOf(0, 6), 9);
        x.lane(2, 0, 5);
        x.lane(3, 0, 9);
        x.shop(0, 0);
        due("3 lamps", x.houseOf(2, 6), 12);
        due("3 lamps, 0 at least", x.houseOf(3, 6), 0);
        due("3 the bride without rain", x.houseOf(0, 6), 0);
        int[] lovellAsks = {15, 24, 15, 24, 15};
        int[] lovellDraws = {0, 7, 7, 0, 7};
        ThirteenthBun y = ofEachKind(0);
        for (int night = 0; night < 5; night++) {
            y.dusk(night, 3);
            due("3 lovell asks in night " + night, y.houseOf(4, 7), lovellAsks[night]);
            due("3 lovell draws in night " + night, y.houseOf(4, 6), lovellDraws[night]);
            y.lane(0, 0, 9);
            y.night();
        }
        due("3 trouble asks by its number", new ThirteenthBun().house(3, 0, 0, 0), 0);
        ThirteenthBun z = new ThirteenthBun();
        for (int k = 0; k < 6; k++) {
            z.house(3, 0, 2, 0);
            due("3 trouble asks by its number", z.houseOf(k, 7), 6 + k);
            due("3 trouble draws", z.houseOf(k, 6), 7);
        }
    }

    private static void houseOfTheRest() {
        ThirteenthBun x = new ThirteenthBun();
        x.house(1, 20, 5, 0);
        x.house(4, 0, 5, 0);
        due("3 served", x.houseOf(0, 9), 1);
        x.shop(1, 20);
        due("3 served at its rank", x.houseOf(0, 9), 1);
        due("3 a farm asks 24", x.houseOf(1, 9), 0);
        x.shop(1, 19);
        due("3 below its rank", x.houseOf(0, 9), 0);
        x.change(0, 1, 0);
        x.shop(1, 13);
        due("3 served at what it asks", x.houseOf(0, 9), 1);
        x.shop(1, 12);
        due("3 below what it asks", x.houseOf(0, 9), 0);
        due("3 will", x.houseOf(0, 8), 0);
        Check.tell(x, "farm hold; bride if rain > 3 send;");
        due("3 will hold", x.houseOf(1, 8), 1);
        due("3 will give", x.houseOf(0, 8), 0);
        x.shop(0, 4);
        due("3 will send, by rain as it is", x.houseOf(0, 8), 2);
        due("3 no such house", x.houseOf(2, 0), ThirteenthBun.BAD);
        due("3 no such house", x.houseOf(-1, 0), ThirteenthBun.BAD);
        due("3 no such what", x.houseOf(0, -1), ThirteenthBun.BAD);
        due("3 no such what", x.houseOf(0, 10), ThirteenthBun.BAD);
    }

    private static void change() {
        ThirteenthBun x = new ThirteenthBun();
        x.house(2, 11, 5, 3);
        int[] was = {2, 11, 5, 3, 0, 0};
        int[] most = {0, 60, 9, 5, 9, 1};
        for (int what = 1; what <= 5; what++) {
            due("4 bad below", x.change(0, what, -1), ThirteenthBun.BAD);
            due("4 bad above", x.change(0, what, most[what] + 1), ThirteenthBun.BAD);
            due("4 no such house", x.change(1, what, 0), ThirteenthBun.BAD);
            due("4 unchanged", x.houseOf(0, what), was[what]);
            due("4 what it was", x.change(0, what, most[what]), was[what]);
            due("4 changed", x.houseOf(0, what), most[what]);
            due("4 back to 0", x.change(0, what, 0), most[what]);
            due("4 changed", x.houseOf(0, what), 0);
        }
        due("4 no what 0", x.change(0, 0, 1), ThirteenthBun.BAD);
        due("4 no what 6", x.change(0, 6, 1), ThirteenthBun.BAD);
        due("4 no house -1", x.change(-1, 1, 1), ThirteenthBun.BAD);
        due("4 its kind stays", x.houseOf(0, 0), 2);
        x.house(1, 1, 1, 1);
        x.change(1, 5, 1);
        due("4 others stay", x.houseOf(0, 5), 0);
        due("4 called", x.state(5), 2);
        due("4 twice called", x.change(1, 5, 1), 1);
        due("4 called", x.state(5), 2);
    }

    private static void remake() {
        ThirteenthBun x = new ThirteenthBun();
        x.house(2, 11, 5, 3);
        x.change(0, 4, 7);
        x.change(0, 5, 1);
        due("5 bad", x.remake(0, 0), ThirteenthBun.BAD);
        due("5 bad", x.remake(0, 6), ThirteenthBun.BAD);
        due("5 bad", x.remake(1, 1), ThirteenthBun.BAD);
        due("5 bad", x.remake(-1, 1), ThirteenthBun.BAD);
        due("5 unchanged", x.houseOf(0, 0), 2);
        due("5 what it was", x.remake(0, 5), 2);
        due("5 what it was", x.remake(0, 4), 5);
        int[] same = {4, 11, 5, 3, 7, 1, 5, 24};
        for (int what = 0; what < same.length; what++) {
            due("5 the rest stays", x.houseOf(0, what), same[what]);
        }
    }

    private static void dusk() {
        ThirteenthBun x = new ThirteenthBun();
        due("6 bad", x.dusk(-1, 0), ThirteenthBun.BAD);
        due("6 bad", x.dusk(16, 0), ThirteenthBun.BAD);
        due("6 bad", x.dusk(0, -1), ThirteenthBun.BAD);
        due("6 bad", x.dusk(0, 16), ThirteenthBun.BAD);
        due("6 what it was", x.dusk(0, 15), 4);
        due("6 what it was", x.dusk(0, 0), 15);
        due("6 the last", x.dusk(15, 15), 4);
        due("6 the last", x.dusk(15, 15), 15);
        int[][] rains = {
            // dusk, rain ahead, rain behind
            {12, 3, 6}, {12, 8, 9}, {8, 7, 9}, {0, 3, 3}, {13, 5, 2}, {13, 2, 0}, {5, 1, 0}, {1, 4, 4},
            {14, 0, 3}, {14, 4, 5}, {14, 9, 6}, {14, 7, 5}, {6, 5, 5}, {2, 9, 9}, {15, 6, 6}, {3, 0, 0}};
        for (int[] r : rains) {
            ThirteenthBun y = new ThirteenthBun();
            y.dusk(0, r[0]);
            y.shop(0, r[1]);
            y.night();
            due("6 rain by dusk " + r[0] + " from " + r[1], y.state(7), r[2]);
            due("6 tray by rain", y.state(8), 26 + 14 - r[2]);
        }
    }

    private static void lanes() {
        ThirteenthBun x = new ThirteenthBun();
        int[][] bad = {{-1, 0, 0}, {6, 0, 0}, {0, -1, 0}, {0, 2, 0}, {0, 0, -1}, {0, 0, 10}, {0, 1, -1}, {0, 1, 15}};
        for (int[] b : bad) {
            due("7 bad", x.lane(b[0], b[1], b[2]), ThirteenthBun.BAD);
        }
        due("7 unchanged", x.laneOf(0, 0), 0);
        due("7 unchanged", x.laneOf(0, 1), 6);
        due("7 lamps", x.lane(5, 0, 9), 0);
        due("7 lamps", x.lane(5, 0, 3), 9);
        due("7 dry", x.lane(5, 1, 14), 6);
        due("7 dry", x.lane(5, 1, 0), 14);
        due("8 lamps", x.laneOf(5, 0), 3);
        due("8 dry", x.laneOf(5, 1), 0);
        due("8 another lane", x.laneOf(4, 1), 6);
        due("8 bad", x.laneOf(6, 0), ThirteenthBun.BAD);
        due("8 bad", x.laneOf(-1, 0), ThirteenthBun.BAD);
        due("8 bad", x.laneOf(0, 2), ThirteenthBun.BAD);
        due("8 bad", x.laneOf(0, -1), ThirteenthBun.BAD);
    }

    private static void shop() {
        ThirteenthBun x = new ThirteenthBun();
        int[][] bad = {{-1, 0}, {2, 0}, {0, -1}, {0, 10}, {1, -1}, {1, 100}};
        for (int[] b : bad) {
            due("9 bad", x.shop(b[0], b[1]), ThirteenthBun.BAD);
        }
        due("9 rain", x.shop(0, 9), 0);
        due("9 rain", x.state(7), 9);
        due("9 rain", x.shop(0, 0), 9);
        due("9 tray", x.shop(1, 99), 26);
        due("9 tray", x.state(8), 99);
        due("9 tray", x.shop(1, 0), 99);
    }

    private static void ends() {
        ThirteenthBun x = new ThirteenthBun();
        due("10 bad", x.ends(0), ThirteenthBun.BAD);
        due("10 bad", x.ends(17), ThirteenthBun.BAD);
        due("10 what it was", x.ends(1), 12);
        x.night();
        x.ends(16);
        x.night();
        due("10 below the night", x.ends(1), ThirteenthBun.STATE);
        due("10 bad ahead of state", x.ends(-5), ThirteenthBun.BAD);
        due("10 unchanged", x.state(1), 16);
        due("10 at the night", x.ends(2), 16);
        due("10 over", x.state(3), 1);
    }

    private static void anew() {
        ThirteenthBun x = new ThirteenthBun();
        x.house(2, 0, 9, 0);
        x.house(1, 0, 9, 1);
        x.ends(7);
        x.dusk(9, 9);
        x.lane(1, 0, 2);
        x.seed(55);
        x.report(1, 0, 1, 1);
        Check.tell(x, "bride hold;");
        x.night();
        x.night();
        x.change(1, 4, 5);
        due("11 what the night was", x.anew(), 2);
        int[] state = {0, 7, 0, 0, 0, 0, 4, 0, 26};
        for (int what = 0; what < state.length; what++) {
            due("11 state " + what, x.state(what), state[what]);
        }
        due("11 houses stay", x.houseOf(0, 2), 9);
        due("11 dusk stays", x.dusk(9, 0), 9);
        due("11 lamps stay", x.laneOf(1, 0), 2);
        due("11 z stays", x.seed(0), 55);
        due("11 rules stay", x.many(1), 1);
        due("11 reports stay", x.many(3), 1);
        due("11 again at once", x.anew(), 0);
    }

    private static void state() {
        ThirteenthBun x = new ThirteenthBun();
        x.house(2, 0, 9, 0);
        x.house(4, 0, 0, 1);
        x.house(2, 0, 1, 2);
        x.dusk(1, 11);
        x.ends(16);
        due("12 bad", x.state(-1), ThirteenthBun.BAD);
        due("12 bad", x.state(9), ThirteenthBun.BAD);
        due("12 worth", x.night(), 11);
        due("12 score", x.state(2), 11);
        due("12 night", x.state(0), 1);
        due("12 dusk", x.state(6), 11);
        due("12 rain", x.state(7), 1);
        due("12 tray", x.state(8), 26 - 6 + 13);
        due("12 called", x.state(5), 1);
        x.change(1, 4, 2);
        x.change(2, 4, 1);
        due("12 buns", x.state(4), 6);
        for (int i = 1; i < 16; i++) {
            due("12 not over", x.state(3), 0);
            x.night();
        }
        due("12 over", x.state(3), 1);
        due("12 night 16", x.state(0), 16);
        due("12 no dusk behind night 15", x.state(6), 0);
    }
}
