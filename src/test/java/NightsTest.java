/** Promises 15 to 23: nights, full trays, bare steps, kin, walks. */
public final class NightsTest {
    public static void main(String[] args) {
        night();
        whoIsTold();
        worths();
        on();
        when();
        griefFor();
        laneFor();
        full();
        bare();
        kin();
        walk();
        changesNothing();
        Check.end();
    }

    private static void due(String call, long got, long want) {
        Check.due(call, got, want);
    }

    /** It never rains more: DUSK is none in every NIGHT. */
    private static ThirteenthBun still() {
        ThirteenthBun x = new ThirteenthBun();
        for (int night = 0; night < 16; night++) {
            x.dusk(night, 3);
        }
        return x;
    }

    private static void night() {
        ThirteenthBun x = still();
        x.ends(2);
        x.house(2, 0, 3, 0);
        due("15 worth", x.night(), 11);
        due("15 tray", x.state(8), 26 - 6 + 14);
        due("15 night", x.state(0), 1);
        due("15 score", x.state(2), 11);
        due("15 called", x.houseOf(0, 5), 1);
        due("15 its bun is gone", x.houseOf(0, 4), 0);
        due("15 all are called on", x.night(), 0);
        due("15 tray", x.state(8), 48);
        due("15 over", x.night(), ThirteenthBun.STATE);
        due("15 over, unchanged", x.state(8), 48);
        due("15 over, unchanged", x.state(0), 2);
        due("15 99 are held", x.shop(1, 90), 48);
        x.ends(4);
        x.night();
        due("15 99 are held", x.state(8), 99);
        x.shop(0, 9);
        x.shop(1, 9);
        x.night();
        due("15 14 less rain", x.state(8), 14);
    }

    private static void whoIsTold() {
        ThirteenthBun x = still();
        x.house(2, 0, 2, 0);
        x.house(2, 30, 9, 1);
        x.house(2, 0, 3, 2);
        x.house(4, 0, 9, 3);
        x.lane(3, 1, 9);
        // 0 draws 4, below 6; 1 is of a rank of 30, above 26.
        due("15 the least of those that can", x.night(), 11);
        due("15 it was 2", x.state(5), 4);
        due("15 tray 34: now 1 is served", x.night(), 11);
        due("15 it was 1", x.state(5), 6);
        due("15 then the farm", x.night(), 11);
        due("15 it was 3", x.state(5), 14);
        due("15 nobody would call at 0", x.night(), 0);
        x.lane(0, 1, 4);
        due("15 as dry as it draws", x.night(), 11);
        due("15 all", x.state(5), 15);
        // Who is told does as it wills: as it holds, it is told again each NIGHT.
        ThirteenthBun y = still();
        y.house(2, 0, 9, 0);
        y.house(1, 0, 9, 1);
        y.lane(1, 1, 0);
        Check.tell(y, "sad if night < 2 hold; sad if night = 2 send;");
        y.change(0, 4, 3);
        due("15 it holds", y.night(), 0);
        due("15 it holds", y.night(), 0);
        due("15 it sends", y.night(), 0);
        due("15 its buns came", y.state(8), 26 + 3 + 42);
        due("15 it gives", y.night(), 11);
        due("15 then the next", y.night(), 11);
        due("15 both", y.state(5), 3);
    }

    private static int go(ThirteenthBun x, int act) {
        x.sheet(3, 0, 1);
        x.write(3, 0, act);
        return x.goAll(3, 0, 1);
    }

    private static void worths() {
        ThirteenthBun x = still();
        x.house(1, 0, 0, 0);
        due("15 nobody would call", go(x, 1), 1);
        due("15 a bun stays", x.houseOf(0, 4), 1);
        due("15 nobody would call", go(x, 1), 1);
        due("15 buns", x.houseOf(0, 4), 2);
        x.shop(0, 6);
        due("15 three buns and 9", go(x, 1), 15);
        due("15 called", x.houseOf(0, 5), 1);
        due("15 none is left", x.houseOf(0, 4), 0);
        due("15 called before", go(x, 1), 2);
        x.change(0, 4, 9);
        x.shop(0, 0);
        due("15 9 are held", go(x, 1), 1);
        due("15 9 are held", x.houseOf(0, 4), 9);
        x.shop(0, 6);
        due("15 9 of them", go(x, 1), 18);
        x.shop(1, 12);
        due("15 not served", go(x, 1), 0);
        due("15 not served: tray", x.state(8), 20);
        due("15 score is all of it", x.state(2), 1 + 1 + 15 + 2 + 1 + 18);
        // Served is by the NIGHT that goes by: a lovell asks 15 in NIGHT 0.
        ThirteenthBun y = still();
        y.house(5, 0, 9, 0);
        y.shop(1, 15);
        due("15 lovell in night 0", go(y, 1), 1);
        due("15 lovell in night 0", y.state(8), 14);
        due("15 lovell in night 1", go(y, 1), 0);
        y.shop(1, 24);
        due("15 lovell in night 2 draws 9", go(y, 1), 2 * 2 + 9);
        due("15 lovell in night 2 asks 15", y.state(8), 24 - 15 + 14);
    }

    private static ThirteenthBun three() {
        ThirteenthBun x = still();
        x.house(2, 0, 9, 0);
        x.house(1, 0, 9, 1);
        x.house(4, 50, 9, 2);
        return x;
    }

    private static void on() {
        ThirteenthBun x = three();
        due("16 none", x.on(0), 0);
        due("16 one", x.on(1), 11);
        // TRAY is 34, 48, 62: the farm's rank of 50 is served in NIGHT 3.
        due("16 three", x.on(3), 11);
        due("16 four", x.on(4), 22);
        due("16 all", x.on(16), 22);
        due("16 bad", x.on(-1), ThirteenthBun.BAD);
        due("16 bad", x.on(17), ThirteenthBun.BAD);
        x.ends(3);
        due("16 fewer", x.on(16), 11);
        x.night();
        due("16 from now", x.on(16), 0);
        x.night();
        x.night();
        due("16 over", x.on(5), 0);
    }

    private static void when() {
        ThirteenthBun x = three();
        due("17 at once", x.when(0), 0);
        due("17 never", x.when(1), ThirteenthBun.NONE);
        due("17 by rank", x.when(2), 3);
        due("17 bad", x.when(3), ThirteenthBun.BAD);
        due("17 bad", x.when(-1), ThirteenthBun.BAD);
        x.night();
        due("17 called now", x.when(0), ThirteenthBun.NONE);
        due("17 by nights from 0 on", x.when(2), 3);
        x.dusk(4, 12);
        x.dusk(5, 12);
        due("17 a bride by rain", x.when(1), 5);
        x.ends(5);
        due("17 over ahead of it", x.when(1), ThirteenthBun.NONE);
        x.ends(1);
        due("17 over", x.when(2), ThirteenthBun.NONE);
    }

    private static void griefFor() {
        ThirteenthBun x = still();
        x.house(2, 0, 9, 0);
        due("18 the least that draws 6", x.griefFor(0), 3);
        x.lane(0, 0, 3);
        due("18 by lamps", x.griefFor(0), 5);
        x.lane(0, 1, 14);
        due("18 by dry steps", x.griefFor(0), 9);
        x.house(1, 0, 4, 1);
        due("18 grief counts nothing to a bride", x.griefFor(1), 0);
        due("18 bad", x.griefFor(2), ThirteenthBun.BAD);
        due("18 bad", x.griefFor(-1), ThirteenthBun.BAD);
        due("18 grief is as it was", x.houseOf(0, 2), 9);
        // By a rule it gives only with GRIEF above 6.
        x.lane(0, 1, 0);
        Check.tell(x, "sad if not grief > 6 hold;");
        due("18 by rules", x.griefFor(0), 7);
        x.ends(1);
        x.night();
        due("18 over", x.griefFor(0), 0);
    }

    private static void laneFor() {
        ThirteenthBun x = still();
        x.house(2, 0, 2, 3);
        for (int g = 0; g < 6; g++) {
            x.lane(g, 1, 8 - g);
        }
        due("19 the first lane of 4 or less", x.laneFor(0), 4);
        x.lane(1, 1, 4);
        due("19 of several the least", x.laneFor(0), 1);
        x.lane(1, 0, 1);
        due("19 by lamps", x.laneFor(0), 4);
        due("19 bad", x.laneFor(1), ThirteenthBun.BAD);
        due("19 bad", x.laneFor(-1), ThirteenthBun.BAD);
        due("19 lane is as it was", x.houseOf(0, 3), 3);
        x.lane(4, 1, 14);
        x.lane(5, 1, 14);
        due("19 none is better", x.laneFor(0), 0);
    }

    private static void full() {
        ThirteenthBun x = three();
        due("20 34 behind night 0", x.full(34), 0);
        due("20 35", x.full(35), 1);
        due("20 0", x.full(0), 0);
        due("20 the farm took 24", x.full(99), 7);
        due("20 bad", x.full(-1), ThirteenthBun.BAD);
        due("20 bad", x.full(100), ThirteenthBun.BAD);
        x.night();
        due("20 nights from 0 on", x.full(35), 1);
        x.ends(7);
        due("20 over ahead of it", x.full(99), ThirteenthBun.NONE);
        x.ends(8);
        due("20 just", x.full(99), 7);
        x.ends(1);
        due("20 over", x.full(0), ThirteenthBun.NONE);
    }

    private static void bare() {
        ThirteenthBun x = three();
        due("21 two are called on", x.bare(0), 10);
        due("21 tray", x.bare(1), 99);
        x.ends(5);
        due("21 of five", x.bare(0), 3);
        due("21 tray", x.bare(1), 34 + 14 + 14 - 24 + 14 + 14);
        due("21 bad", x.bare(-1), ThirteenthBun.BAD);
        due("21 bad", x.bare(2), ThirteenthBun.BAD);
        x.ends(1);
        x.night();
        due("21 over", x.bare(0), 0);
        due("21 over", x.bare(1), 34);
        // A NIGHT with a HOUSE that holds is bare, too.
        ThirteenthBun y = three();
        Check.tell(y, "house hold;");
        due("21 all hold", y.bare(0), 12);
    }

    private static void kin() {
        ThirteenthBun x = new ThirteenthBun();
        due("22 none", x.kin(-1), 0);
        due("22 bad", x.kin(0), ThirteenthBun.BAD);
        x.house(1, 0, 0, 0);
        x.house(1, 0, 2, 1);
        x.house(1, 0, 4, 0);
        x.house(1, 0, 6, 3);
        x.house(1, 0, 8, 3);
        x.house(1, 0, 3, 4);
        due("22 how many", x.kin(-1), 2);
        due("22 by lane and grief, one by the other", x.kin(0), 1 + 2 + 4 + 32);
        due("22 the same from another", x.kin(1), 39);
        due("22 by lane", x.kin(3), 24);
        due("22 by lane", x.kin(4), 24);
        due("22 bad", x.kin(6), ThirteenthBun.BAD);
        due("22 bad", x.kin(-2), ThirteenthBun.BAD);
        x.change(5, 5, 1);
        due("22 called", x.kin(5), 0);
        due("22 called ones join nothing", x.kin(1), 2);
        due("22 called ones join nothing", x.kin(0), 5);
        due("22 how many", x.kin(-1), 3);
        x.change(3, 2, 5);
        due("22 1 apart", x.kin(0), 1 + 4 + 8 + 16);
        due("22 how many", x.kin(-1), 2);
        for (int k = 0; k < 6; k++) {
            x.change(k, 5, 1);
        }
        due("22 all are called on", x.kin(-1), 0);
    }

    private static void walk() {
        ThirteenthBun x = new ThirteenthBun();
        due("23 none", x.walk(3, 0), 0);
        due("23 none", x.walk(3, 1), ThirteenthBun.NONE);
        due("23 bad ahead of none", x.walk(6, 1), ThirteenthBun.BAD);
        due("23 bad", x.walk(-1, 0), ThirteenthBun.BAD);
        due("23 bad", x.walk(0, 2), ThirteenthBun.BAD);
        due("23 bad", x.walk(0, -1), ThirteenthBun.BAD);
        x.house(1, 0, 0, 5);
        due("23 round behind 0", x.walk(0, 0), 1);
        due("23 the far side", x.walk(2, 0), 3);
        x.house(1, 0, 0, 2);
        due("23 one side, then the other", x.walk(0, 0), 1 + 3);
        due("23 the nearer first", x.walk(0, 1), 0);
        due("23 the nearer first", x.walk(1, 0), 1 + 3);
        due("23 the nearer first", x.walk(1, 1), 1);
        x.house(1, 0, 0, 4);
        due("23 5, 4, 2", x.walk(0, 0), 1 + 1 + 2);
        due("23 2, 4, 5", x.walk(2, 0), 3);
        due("23 2 first", x.walk(2, 1), 1);
        x.house(1, 0, 0, 4);
        x.house(1, 0, 0, 0);
        due("23 its own lane", x.walk(4, 0), 1 + 1 + 2);
        due("23 of several rows the least house first", x.walk(0, 1), 4);
        due("23 of several rows the least house first", x.walk(4, 1), 2);
        x.change(2, 5, 1);
        due("23 the other one of lane 4", x.walk(4, 1), 3);
        x.change(0, 5, 1);
        x.change(3, 5, 1);
        x.change(4, 5, 1);
        due("23 only one waits", x.walk(5, 0), 3);
        x.change(1, 5, 1);
        due("23 all are called on", x.walk(5, 0), 0);
        due("23 all are called on", x.walk(5, 1), ThirteenthBun.NONE);
        ThirteenthBun y = new ThirteenthBun();
        y.house(1, 0, 0, 3);
        y.house(1, 0, 0, 1);
        due("23 two ways of 3 or 4: 1, 3", y.walk(0, 0), 3);
        due("23 1 first", y.walk(0, 1), 1);
        due("23 from 2 both are alike: 0 first", y.walk(2, 1), 0);
    }

    private static void changesNothing() {
        ThirteenthBun x = three();
        x.seed(9);
        x.on(9);
        x.when(2);
        x.griefFor(2);
        x.laneFor(2);
        x.full(70);
        x.bare(0);
        x.kin(-1);
        x.walk(3, 1);
        int[] state = {0, 12, 0, 0, 0, 0, 3, 0, 26};
        for (int what = 0; what < state.length; what++) {
            due("asked: state " + what, x.state(what), state[what]);
        }
        due("asked: grief", x.houseOf(2, 2), 9);
        due("asked: lane", x.houseOf(2, 3), 2);
        due("asked: z", x.seed(0), 9);
    }
}
