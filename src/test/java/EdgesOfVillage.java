import java.util.Arrays;

/** Boundary cases of promises 1 to 12 and of THE VILLAGE: a new object, houses, lanes, the shop, how long it lasts. */
final class EdgesOfVillage extends Edge {
    static void all() {
        refusals();
        aNewObject();
        callsOfOneObject();
        house();
        houseOf();
        asksAndDraws();
        served();
        change();
        remake();
        dusk();
        lanes();
        shop();
        ends();
        anew();
        state();
    }

    private static void refusals() {
        says(1, "BAD (-1) there is no such thing, or a number is not as told; FULL (-2); NONE (-3); STATE (-4);");
        is("BAD", ThirteenthBun.BAD, -1);
        is("FULL", ThirteenthBun.FULL, -2);
        is("NONE", ThirteenthBun.NONE, -3);
        is("STATE", ThirteenthBun.STATE, -4);
    }

    private static void aNewObject() {
        says(1, "No HOUSES, RULES, REPORTS; nothing is kept.");
        ThirteenthBun x = new ThirteenthBun();
        is("many(0)", x.many(0), 0);
        is("many(1)", x.many(1), 0);
        is("many(3)", x.many(3), 0);
        is("houseOf(0, 0)", x.houseOf(0, 0), ThirteenthBun.BAD);
        is("again()", x.again(), ThirteenthBun.NONE);
        says(1, "END is 1 to 16 (12 at first); NIGHT: the one that comes (0 at first)");
        is("state(1)", x.state(1), 12);
        is("state(0)", x.state(0), 0);
        says(1, "3 none); 4 at first.");
        for (int night = 0; night < 16; night++) {
            is("dusk of " + night, x.dusk(night, 15), 4);
        }
        says(1, "There are RAIN (0 to 9; 0 at first), and a TRAY (0 to 99 of bread; 26 at first).");
        is("state(7)", x.state(7), 0);
        is("state(8)", x.state(8), 26);
        says(1, "each have LAMPS (0 to 9; 0 at first), are DRY (0 to 14; 6 at first).");
        for (int g = 0; g < 6; g++) {
            is("lamps of " + g, x.laneOf(g, 0), 0);
            is("how dry is " + g, x.laneOf(g, 1), 6);
        }
        says(1, "SCORE: what NIGHTS were WORTH (0 at first).");
        is("state(2)", x.state(2), 0);
        says(1, "z (an int; 1 at first)");
        is("seed(1)", x.seed(1), 1);
        says(1, "or missing (at first).");
        for (int sheet = 0; sheet < 4; sheet++) {
            is("write(" + sheet + ", 0, 1)", x.write(sheet, 0, 1), -11);
        }
        says(1, "or nothing (at first).");
        for (int shelf = 0; shelf < 4; shelf++) {
            is("taken(" + shelf + ", 0)", x.taken(shelf, 0), -11);
        }
        says(1, "No HOUSES, RULES, REPORTS; nothing is kept.");
        is("rows", x.many(4), 0);
        is("bytes of the tape", x.many(5), 0);
        is("bodies of the trace", x.many(6), 0);
    }

    private static void callsOfOneObject() {
        says(1, "An object is used for at most 512 calls after it has been made");
        ThirteenthBun x = new ThirteenthBun();
        for (int call = 1; call < 512; call++) {
            x.seed(call);
        }
        is("the 512th call", x.seed(0), 511);
    }

    private static void house() {
        says(2, "A HOUSE of a KIND 1 to 5: its number. BAD; FULL.");
        takes(1, 5, "house(kind, 0, 0, 0)", Villages::five, (x, v) -> x.house(v, 0, 0, 0));
        says(2, "a RANK (0 to 60: it is served from a TRAY of as much), GRIEF (0 to 9), a LANE");
        takes(0, 60, "house(1, rank, 0, 0)", Villages::five, (x, v) -> x.house(1, v, 0, 0));
        takes(0, 9, "house(1, 0, grief, 0)", Villages::five, (x, v) -> x.house(1, 0, v, 0));
        says(2, "LANES 0 to 5 (round a green: 0 is beside 5, too)");
        takes(0, 5, "house(1, 0, 0, lane)", Villages::five, (x, v) -> x.house(1, 0, 0, v));
        says(2, "HOUSES, 6 at most, numbered as they come: a KIND, a RANK");
        ThirteenthBun x = new ThirteenthBun();
        int[][] told = {{1, 0, 0, 0}, {5, 60, 9, 5}, {2, 1, 1, 1}, {3, 59, 8, 4}, {4, 30, 4, 3}, {1, 60, 0, 5}};
        for (int k = 0; k < told.length; k++) {
            is("house " + k, x.house(told[k][0], told[k][1], told[k][2], told[k][3]), k);
        }
        for (int k = 0; k < told.length; k++) {
            for (int what = 0; what < 4; what++) {
                is("houseOf(" + k + ", " + what + ")", x.houseOf(k, what), told[k][what]);
            }
        }
        is("the seventh", x.house(1, 0, 0, 0), ThirteenthBun.FULL);
        refused(ThirteenthBun.FULL, "house(1, 0, 0, 0)", Villages::full, v -> v.house(1, 0, 0, 0));
        refused(ThirteenthBun.FULL, "house(5, 60, 9, 5)", Villages::full, v -> v.house(5, 60, 9, 5));
        says(2, "BUNS on the shelf (0 to 9; 0 at first); CALLED on or not (at first).");
        is("state(4)", x.state(4), 0);
        is("state(5)", x.state(5), 0);
        says(2, "of several the first named: BAD (-1) there is no such thing, or a number is not as told; FULL (-2)");
        int[][] bad = {{0, 0, 0, 0}, {6, 0, 0, 0}, {1, -1, 0, 0}, {1, 61, 0, 0}, {1, 0, -1, 0}, {1, 0, 10, 0}, {1, 0, 0, -1},
            {1, 0, 0, 6}};
        for (int[] b : bad) {
            refused(ThirteenthBun.BAD, "house" + Arrays.toString(b), Villages::full, v -> v.house(b[0], b[1], b[2], b[3]));
        }
    }

    private static void houseOf() {
        says(3, "9 1 if it is SERVED now, else 0. BAD.");
        takes(0, 9, "houseOf(0, what)", Villages::full, (x, v) -> x.houseOf(0, v));
        takes(0, 5, "houseOf(k, 0)", Villages::full, (x, v) -> x.houseOf(v, 0));
        takes(0, 4, "houseOf(k, 9)", Villages::five, (x, v) -> x.houseOf(v, 9));
        refused(ThirteenthBun.BAD, "houseOf(k, 0) of none", Villages::anew, (x, v) -> x.houseOf(v, 0), -1, 0, 1, 5);
        says(3, "5 1 if it is CALLED on, else 0");
        ThirteenthBun x = Villages.sad();
        is("houseOf(0, 5)", x.houseOf(0, 5), 0);
        x.change(0, 5, 1);
        is("houseOf(0, 5)", x.houseOf(0, 5), 1);
        says(3, "8 WILL as all is now (0 give, 1 hold, 2 send)");
        String[] deeds = {"give", "hold", "send"};
        for (int will = 0; will < 3; will++) {
            Check.tell(x, "sad " + deeds[will] + ";");
            is("houseOf(0, 8) by " + deeds[will], x.houseOf(0, 8), will);
        }
    }

    /** One of each KIND, and a second trouble: GRIEF 7 of all, all in LANE 0; RAIN as told. */
    private static ThirteenthBun kinds(int rain) {
        ThirteenthBun x = Villages.still();
        int[] kinds = {1, 2, 3, 4, 5, 3};
        for (int kind : kinds) {
            x.house(kind, 0, 7, 0);
        }
        x.shop(0, rain);
        return x;
    }

    private static void all(String call, ThirteenthBun x, int what, int... want) {
        for (int k = 0; k < want.length; k++) {
            is(call + " of house " + k, x.houseOf(k, what), want[k]);
        }
    }

    private static void asksAndDraws() {
        says(3, "sad: half (cut) of a house. trouble: as sad, and its number.");
        all("asks in night 0", kinds(0), 7, 13, 6, 8, 24, 15, 11);
        ThirteenthBun first = new ThirteenthBun();
        first.house(3, 0, 0, 0);
        is("trouble asks by number 0", first.houseOf(0, 7), 6);
        says(3, "lovell: as farm, less 9 in even NIGHTS.");
        ThirteenthBun x = kinds(4);
        x.ends(16);
        for (int night = 0; night <= 16; night++) {
            is("lovell asks in night " + night, x.houseOf(4, 7), night % 2 == 0 ? 15 : 24);
            is("farm asks in night " + night, x.houseOf(3, 7), 24);
            x.night();
        }
        says(3, "lovell: as farm, but 0 in NIGHTS that 3 divides.");
        ThirteenthBun y = kinds(4);
        y.ends(16);
        for (int night = 0; night <= 16; night++) {
            is("lovell draws in night " + night, y.houseOf(4, 6), night % 3 == 0 ? 0 : 7);
            y.night();
        }
        says(3, "bride: RAIN. sad: as a house, and GRIEF once more. trouble: 3 more than sad. farm: the greater one of GRIEF, RAIN.");
        all("draws by rain 0", kinds(0), 6, 0, 14, 17, 7, 0, 17);
        all("draws by rain 7", kinds(7), 6, 7, 21, 24, 7, 0, 24);
        all("draws by rain 9", kinds(9), 6, 9, 23, 26, 9, 0, 26);
        says(3, "What a HOUSE DRAWS is less by LAMPS of its LANE (0 at least).");
        ThirteenthBun z = kinds(3);
        int[][] lamps = {{0, 3, 17, 20, 7, 0}, {2, 1, 15, 18, 5, 0}, {3, 0, 14, 17, 4, 0}, {4, 0, 13, 16, 3, 0},
            {7, 0, 10, 13, 0, 0}, {8, 0, 9, 12, 0, 0}, {9, 0, 8, 11, 0, 0}};
        for (int[] l : lamps) {
            z.lane(0, 0, l[0]);
            all("draws with lamps " + l[0], z, 6, Arrays.copyOfRange(l, 1, 6));
        }
        z.lane(0, 0, 0);
        z.lane(1, 0, 9);
        all("draws with lamps in another lane", z, 6, 3, 17, 20, 7, 0);
    }

    private static void served() {
        says(3, "It is SERVED, if TRAY is as much as it ASKS, and as its RANK, or more.");
        int[] asks = {13, 6, 8, 24, 15, 11};
        ThirteenthBun x = kinds(0);
        for (int k = 0; k < 6; k++) {
            x.shop(1, asks[k]);
            is("served with " + asks[k] + ", house " + k, x.houseOf(k, 9), 1);
            x.shop(1, asks[k] - 1);
            is("served with one less, house " + k, x.houseOf(k, 9), 0);
            x.shop(1, 99);
            is("served with 99, house " + k, x.houseOf(k, 9), 1);
            x.shop(1, 0);
            is("served with 0, house " + k, x.houseOf(k, 9), 0);
        }
        says(3, "a RANK (0 to 60: it is served from a TRAY of as much)");
        int[] ranks = {60, 25, 14};
        for (int rank : ranks) {
            x.change(0, 1, rank);
            x.shop(1, rank);
            is("a rank of " + rank + " and as much", x.houseOf(0, 9), 1);
            x.shop(1, rank - 1);
            is("a rank of " + rank + " and one less", x.houseOf(0, 9), 0);
        }
    }

    private static void change() {
        says(4, "RANK (what 1), GRIEF (2), LANE (3), BUNS (4), CALLED on (5: 0, 1) of a HOUSE becomes v: what it was. BAD.");
        int[] most = {0, 60, 9, 5, 9, 1};
        for (int w = 1; w <= 5; w++) {
            int what = w;
            takes(0, most[what], "change(2, " + what + ", v)", Villages::full, (x, v) -> x.change(2, what, v));
            ThirteenthBun x = Villages.full();
            int was = x.houseOf(4, what);
            is("to the greatest", x.change(4, what, most[what]), was);
            is("it is", x.houseOf(4, what), most[what]);
            is("to 0", x.change(4, what, 0), most[what]);
            is("it is", x.houseOf(4, what), 0);
            is("back", x.change(4, what, was), 0);
            same("changed and back", x, Villages.full());
        }
        takes(1, 5, "change(0, what, 0)", Villages::full, (x, v) -> x.change(0, v, 0));
        takes(0, 5, "change(k, 1, 1)", Villages::full, (x, v) -> x.change(v, 1, 1));
        takes(0, 4, "change(k, 5, 1)", Villages::five, (x, v) -> x.change(v, 5, 1));
        refused(ThirteenthBun.BAD, "change(k, 1, 1) of none", Villages::anew, (x, v) -> x.change(v, 1, 1), -1, 0, 1);
    }

    private static void remake() {
        says(5, "A HOUSE becomes one of another KIND (1 to 5): the KIND that it was. BAD.");
        takes(1, 5, "remake(2, kind)", Villages::full, (x, v) -> x.remake(2, v));
        takes(0, 5, "remake(k, 1)", Villages::full, (x, v) -> x.remake(v, 1));
        takes(0, 4, "remake(k, 5)", Villages::five, (x, v) -> x.remake(v, 5));
        refused(ThirteenthBun.BAD, "remake(k, 1) of none", Villages::anew, (x, v) -> x.remake(v, 1), -1, 0, 1);
        ThirteenthBun x = Villages.full();
        is("from 4 to 1", x.remake(2, 1), 4);
        is("from 1 to 5", x.remake(2, 5), 1);
        is("from 5 to 5", x.remake(2, 5), 5);
        is("it is", x.houseOf(2, 0), 5);
        is("its buns stay", x.houseOf(2, 4), 9);
        is("back", x.remake(2, 4), 5);
        same("remade and back", x, Villages.full());
    }

    private static void dusk() {
        says(6, "DUSK of a NIGHT (0 to 15) becomes v (0 to 15): what it was. BAD.");
        takes(0, 15, "dusk(night, 7)", Villages::full, (x, v) -> x.dusk(v, 7));
        takes(0, 15, "dusk(9, v)", Villages::full, (x, v) -> x.dusk(9, v));
        ThirteenthBun x = Villages.anew();
        for (int night = 0; night < 16; night++) {
            is("dusk(" + night + ", " + night + ")", x.dusk(night, night), 4);
        }
        for (int night = 0; night < 16; night++) {
            is("dusk(" + night + ", 0)", x.dusk(night, 0), night);
        }
        says(6, "Each of NIGHTS 0 to 15 has DUSK: 4 times its FORCE (0 to 3), and its WAY (0 wetter, 1 drier, 2 milder, 3 none)");
        for (int dusk = 0; dusk < 16; dusk++) {
            for (int rain = 0; rain <= 9; rain++) {
                rainBehind(dusk, rain);
            }
        }
        is("dusk of night 15", rainOfNight15(12), 3);
        is("dusk of night 15", rainOfNight15(3), 0);
    }

    private static int rainOfNight15(int dusk) {
        ThirteenthBun x = Villages.still();
        x.ends(16);
        x.dusk(15, dusk);
        for (int night = 0; night < 16; night++) {
            x.night();
        }
        return x.state(7);
    }

    private static void rainBehind(int dusk, int rain) {
        says(6, "by its DUSK RAIN is more, less by FORCE (0 to 9 held), or nearer to 5 by FORCE, not beyond.");
        int[] want = {rain, rain, rain, rain};
        for (int force = dusk / 4; force > 0; force--) {
            want[0] = want[0] == 9 ? 9 : want[0] + 1;
            want[1] = want[1] == 0 ? 0 : want[1] - 1;
            want[2] = want[2] == 5 ? 5 : want[2] < 5 ? want[2] + 1 : want[2] - 1;
        }
        ThirteenthBun x = new ThirteenthBun();
        x.dusk(0, dusk);
        x.shop(0, rain);
        x.night();
        is("rain behind a dusk of " + dusk + " from " + rain, x.state(7), want[dusk % 4]);
    }

    private static void lanes() {
        says(7, "LAMPS of a LANE (what 0), how DRY it is (1) becomes v: what it was. BAD.");
        takes(0, 9, "lane(5, 0, lamps)", Villages::full, (x, v) -> x.lane(5, 0, v));
        takes(0, 14, "lane(5, 1, dry)", Villages::full, (x, v) -> x.lane(5, 1, v));
        takes(0, 1, "lane(5, what, 0)", Villages::full, (x, v) -> x.lane(5, v, 0));
        takes(0, 5, "lane(g, 0, 1)", Villages::full, (x, v) -> x.lane(v, 0, 1));
        takes(0, 5, "lane(g, 1, 1)", Villages::full, (x, v) -> x.lane(v, 1, 1));
        says(8, "Of a LANE: what = 0 LAMPS, 1 how DRY it is. BAD.");
        takes(0, 5, "laneOf(g, 0)", Villages::full, (x, v) -> x.laneOf(v, 0));
        takes(0, 5, "laneOf(g, 1)", Villages::full, (x, v) -> x.laneOf(v, 1));
        takes(0, 1, "laneOf(0, what)", Villages::full, (x, v) -> x.laneOf(0, v));
        ThirteenthBun x = new ThirteenthBun();
        for (int g = 0; g < 6; g++) {
            is("lane(" + g + ", 0, 9)", x.lane(g, 0, 9), 0);
            is("lane(" + g + ", 1, 14)", x.lane(g, 1, 14), 6);
        }
        for (int g = 0; g < 6; g++) {
            is("lane(" + g + ", 0, 0)", x.lane(g, 0, 0), 9);
            is("lane(" + g + ", 1, 0)", x.lane(g, 1, 0), 14);
            is("laneOf(" + g + ", 0)", x.laneOf(g, 0), 0);
            is("laneOf(" + g + ", 1)", x.laneOf(g, 1), 0);
        }
    }

    private static void shop() {
        says(9, "RAIN (what 0), TRAY (1) becomes v: what it was. BAD.");
        takes(0, 9, "shop(0, rain)", Villages::full, (x, v) -> x.shop(0, v));
        takes(0, 99, "shop(1, tray)", Villages::full, (x, v) -> x.shop(1, v));
        takes(0, 1, "shop(what, 0)", Villages::full, (x, v) -> x.shop(v, 0));
        ThirteenthBun x = new ThirteenthBun();
        is("shop(0, 9)", x.shop(0, 9), 0);
        is("shop(1, 99)", x.shop(1, 99), 26);
        is("shop(0, 0)", x.shop(0, 0), 9);
        is("shop(1, 0)", x.shop(1, 0), 99);
        is("state(7)", x.state(7), 0);
        is("state(8)", x.state(8), 0);
    }

    private static ThirteenthBun inNight(int night) {
        ThirteenthBun x = Villages.sad();
        x.ends(16);
        for (int i = 0; i < night; i++) {
            x.night();
        }
        return x;
    }

    private static void ends() {
        says(10, "END is 1 to 16 (12 at first)");
        takes(1, 16, "ends(v)", Villages::anew, (x, v) -> x.ends(v));
        says(10, "END becomes v: what it was. BAD; STATE: v is below NIGHT.");
        refused(ThirteenthBun.BAD, "ends(v)", Villages::full, (x, v) -> x.ends(v), 17, Integer.MAX_VALUE);
        refused(ThirteenthBun.STATE, "ends(v) in night 3", Villages::full, (x, v) -> x.ends(v), 1, 2);
        refused(ThirteenthBun.STATE, "ends(v) in night 16", () -> inNight(16), (x, v) -> x.ends(v), 1, 15);
        says(10, "of several the first named: BAD (-1)");
        refused(ThirteenthBun.BAD, "ends(v) below night 3", Villages::full, (x, v) -> x.ends(v), 0, -1, Integer.MIN_VALUE);
        says(10, "END becomes v: what it was. BAD; STATE: v is below NIGHT.");
        ThirteenthBun x = inNight(5);
        is("ends(5) in night 5", x.ends(5), 16);
        is("it is over", x.state(3), 1);
        is("ends(6) in night 5", x.ends(6), 5);
        is("it isn't over", x.state(3), 0);
        is("ends(16) in night 16", inNight(16).ends(16), 16);
    }

    private static void anew() {
        says(11, "NIGHT is 0 again, SCORE 0, RAIN 0, TRAY 26, no HOUSE has BUNS, is CALLED on: what NIGHT was.");
        is("anew() in night 0", Villages.sad().anew(), 0);
        is("anew() in night 16", inNight(16).anew(), 16);
        ThirteenthBun x = Villages.full();
        for (int k = 0; k < 6; k++) {
            x.change(k, 4, 9);
            x.change(k, 5, 1);
        }
        x.shop(0, 9);
        x.shop(1, 99);
        is("anew() in night 3", x.anew(), 3);
        int[] state = {0, 14, 0, 0, 0, 0, 4, 0, 26};
        for (int what = 0; what < state.length; what++) {
            is("state(" + what + ")", x.state(what), state[what]);
        }
        for (int k = 0; k < 6; k++) {
            is("buns of " + k, x.houseOf(k, 4), 0);
            is("called on " + k, x.houseOf(k, 5), 0);
        }
        is("its houses stay", x.many(0), 6);
        is("its rules stay", x.many(1), 8);
        is("its reports stay", x.many(3), 6);
        is("its z stays", x.seed(0), Villages.full().seed(0));
        is("anew() again", x.anew(), 0);
        ThirteenthBun y = Villages.still();
        y.anew();
        same("anew() of what was not begun", y, Villages.still());
    }

    private static void state() {
        says(12, "6 DUSK of NIGHT (0 behind NIGHT 15), 7 RAIN, 8 TRAY. BAD.");
        takes(0, 8, "state(what)", Villages::full, (x, v) -> x.state(v));
        ThirteenthBun x = new ThirteenthBun();
        x.ends(16);
        x.dusk(0, 3);
        x.dusk(15, 13);
        is("dusk in night 0", x.state(6), 3);
        for (int night = 0; night < 15; night++) {
            x.night();
        }
        is("dusk in night 15", x.state(6), 13);
        x.ends(15);
        is("dusk in night 15, over", x.state(6), 13);
        x.ends(16);
        x.night();
        is("dusk behind night 15", x.state(6), 0);
        says(12, "NIGHT: the one that comes (0 at first); from END on it is OVER.");
        ThirteenthBun y = inNight(3);
        y.ends(4);
        is("over ahead of the last night", y.state(3), 0);
        y.night();
        is("over behind it", y.state(3), 1);
        y.ends(5);
        is("over when end is later", y.state(3), 0);
        says(12, "4 HOUSES that have BUNS, 5 HOUSES that are CALLED on, as sets");
        ThirteenthBun z = Villages.full();
        for (int what = 4; what <= 5; what++) {
            for (int k = 0; k < 6; k++) {
                z.change(k, what, 0);
            }
            is("none of them", z.state(what), 0);
            for (int k = 0; k < 6; k++) {
                z.change(k, what, 1);
                is("houses up to " + k, z.state(what), (1 << k + 1) - 1);
            }
            z.change(3, what, 0);
            is("all but 3", z.state(what), 63 - 8);
        }
    }
}
