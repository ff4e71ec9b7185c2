import java.util.ArrayList;
import java.util.List;

/** All that can be asked of a village, in some 340 calls; asking uses up its tape and makes it what it kept. */
final class Seen {
    private static final int[] KINDS_AND_SORTS = {0, 1, 2, 3, 4, 5, 10, 11, 12, 13, 14};
    private static final int[] ITEMS = {0, 1, 2, 5, 39, 40};
    private final List<String> all = new ArrayList<>();
    private final ThirteenthBun x;

    private Seen(ThirteenthBun x) {
        this.x = x;
    }

    static List<String> of(ThirteenthBun x) {
        Seen seen = new Seen(x);
        seen.village();
        seen.rows();
        seen.host();
        seen.add("rules()", x.rules());
        seen.wills();
        seen.add("again()", x.again());
        seen.village();
        return seen.all;
    }

    private void add(String call, int answer) {
        all.add(call + " is " + answer);
    }

    private void village() {
        for (int what = 0; what <= 8; what++) {
            add("state(" + what + ")", x.state(what));
        }
        for (int what = 0; what <= 6; what++) {
            add("many(" + what + ")", x.many(what));
        }
        int houses = x.many(0);
        for (int k = 0; k < houses; k++) {
            for (int what = 0; what <= 5; what++) {
                add("houseOf(" + k + ", " + what + ")", x.houseOf(k, what));
            }
        }
        for (int g = 0; g < 6; g++) {
            add("laneOf(" + g + ", 0)", x.laneOf(g, 0));
            add("laneOf(" + g + ", 1)", x.laneOf(g, 1));
        }
        for (int night = 0; night < 16; night++) {
            int dusk = x.dusk(night, 0);
            add("dusk of " + night, dusk);
            x.dusk(night, dusk);
        }
        int z = x.seed(0);
        add("z", z);
        x.seed(z);
        wills();
        for (int what = 0; what <= 3; what++) {
            add("stories(" + what + ")", x.stories(what));
        }
        add("liar()", x.liar());
    }

    private void wills() {
        add("many(1)", x.many(1));
        int houses = x.many(0);
        for (int k = 0; k < houses; k++) {
            add("will of " + k, x.houseOf(k, 8));
        }
        add("on(16)", x.on(16));
    }

    private void rows() {
        for (int k = 0; k < 4; k++) {
            for (int what = 0; what < 3; what++) {
                add("row(" + k + ", " + what + ")", x.row(k, what));
            }
        }
    }

    private void host() {
        for (int i = 0; i < 11; i++) {
            add("trace(" + i + ")", x.trace(i));
        }
        for (int sheet = 0; sheet < 4; sheet++) {
            for (int sort = 0; sort < 5; sort++) {
                int first = x.item(sheet, sort, 0);
                add("item(" + sheet + ", " + sort + ", 0)", first);
                for (int i = 1; i < ITEMS.length && first != -13 && first != -11; i++) {
                    add("item(" + sheet + ", " + sort + ", " + ITEMS[i] + ")", x.item(sheet, sort, ITEMS[i]));
                }
            }
        }
        for (int shelf = 0; shelf < 4; shelf++) {
            for (int as : KINDS_AND_SORTS) {
                add("taken(" + shelf + ", " + as + ")", x.taken(shelf, as));
            }
        }
    }
}
