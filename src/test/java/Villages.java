/** Villages from which the tests of boundary cases begin. */
final class Villages {
    static final int BYTES = 0, SHORTS = 1, INTS = 2, LONGS = 3, BOOLEANS = 4;
    static final int MOST_BYTES = 200;
    private static final String EIGHT_RULES = "bride if rain>8 send;trouble if grief=3 hold;lovell if night<2 hold;"
        + "sad if not draws>1 hold;farm if number=9 send;house if night>14 hold;bride give;house give;";

    private Villages() {
    }

    static ThirteenthBun anew() {
        return new ThirteenthBun();
    }

    /** It never rains more or less: each DUSK's WAY is none. */
    static ThirteenthBun still() {
        ThirteenthBun x = new ThirteenthBun();
        for (int night = 0; night < 16; night++) {
            x.dusk(night, 3);
        }
        return x;
    }

    /** A HOUSE that always asks 6, of GRIEF 9, in LANE 0, where it would be called on at once; no rain. */
    static ThirteenthBun sad() {
        ThirteenthBun x = still();
        x.house(2, 0, 9, 0);
        return x;
    }

    static ThirteenthBun five() {
        ThirteenthBun x = new ThirteenthBun();
        x.house(1, 14, 8, 0);
        x.house(2, 6, 9, 1);
        x.house(4, 30, 5, 2);
        x.house(5, 25, 6, 0);
        x.house(3, 8, 9, 1);
        x.lane(0, 0, 1);
        x.lane(1, 1, 4);
        x.lane(2, 1, 9);
        x.dusk(1, 9);
        x.dusk(2, 14);
        return x;
    }

    /** Of all that can be full as much as there may be, and nothing as it is at first; NIGHT 3 comes. */
    static ThirteenthBun full() {
        ThirteenthBun x = five();
        Check.tell(x, EIGHT_RULES);
        x.report(0, 1, 2, 8);
        x.report(2, 1, 0, 9);
        x.report(1, 0, 5, 60);
        x.night();
        x.keep();
        x.house(2, 60, 0, 5);
        x.ends(14);
        x.seed(77);
        x.report(3, 0, 1, 90);
        x.report(15, 1, 0, 9);
        x.report(0, 0, 26, 26);
        x.lot();
        x.night();
        x.change(2, 4, 9);
        x.change(5, 4, 3);
        x.prove(4);
        host(x);
        Check.feed(x, padded("sad if rain>3 send; sad hold;"));
        return x;
    }

    /** SHEETS of bytes, booleans, longs, and one that is missing; SHELVES with a HOUSE, a row, nothing, a HOUSE. */
    private static void host(ThirteenthBun x) {
        x.sheet(0, BYTES, 6);
        int[] acts = {1, 99, 2, 0, 3, -1};
        for (int i = 0; i < acts.length; i++) {
            x.write(0, i, acts[i]);
        }
        x.sheet(1, BOOLEANS, 3);
        x.write(1, 2, 7);
        x.sheet(2, LONGS, 40);
        x.write(2, 39, -5);
        x.shelf(0, 0, 4);
        x.shelf(1, 1, 2);
        x.shelf(3, 0, 5);
        x.act(0, 3, 9);
    }

    static ThirteenthBun fullAndOver() {
        ThirteenthBun x = full();
        x.ends(3);
        return x;
    }

    /** A text that blanks make as long as THE TAPE can be. */
    static String padded(String text) {
        return text + " ".repeat(MOST_BYTES - text.length());
    }

    /** What one NIGHT with an ACT is WORTH. */
    static int go(ThirteenthBun x, int act) {
        x.sheet(3, BYTES, 1);
        x.write(3, 0, act);
        return x.goAll(3, 0, 1);
    }
}
