/** Promises 31 to 37: reports, strange houses, lots. */
public final class LotsTest {
    public static void main(String[] args) {
        report();
        forget();
        storiesByHand();
        storiesByRain();
        liar();
        onlyOneFits();
        seed();
        lot();
        times();
        Check.end();
    }

    private static void due(String call, long got, long want) {
        Check.due(call, got, want);
    }

    private static void report() {
        ThirteenthBun x = new ThirteenthBun();
        int[][] bad = {{-1, 0, 0, 1}, {16, 0, 0, 1}, {0, -1, 0, 1}, {0, 2, 0, 1}, {0, 0, -1, 1}, {0, 0, 0, 100},
            {0, 0, 100, 100}, {0, 1, -1, 1}, {0, 1, 0, 10}, {0, 1, 10, 10}, {0, 0, 5, 4}, {0, 1, 5, 4},
            {0, 0, Integer.MIN_VALUE, Integer.MAX_VALUE}};
        for (int[] r : bad) {
            due("31 bad", x.report(r[0], r[1], r[2], r[3]), ThirteenthBun.BAD);
        }
        due("31 none came", x.many(3), 0);
        due("31 its number", x.report(0, 0, 0, 99), 0);
        due("31 its number", x.report(15, 0, 0, 99), 1);
        due("31 its number", x.report(0, 1, 0, 9), 2);
        due("31 its number", x.report(15, 1, 0, 9), 3);
        due("31 its number", x.report(7, 1, 3, 3), 4);
        due("31 its number", x.report(7, 1, 3, 3), 5);
        due("31 full", x.report(7, 1, 3, 3), ThirteenthBun.FULL);
        for (int[] r : bad) {
            due("31 bad ahead of full", x.report(r[0], r[1], r[2], r[3]), ThirteenthBun.BAD);
        }
        due("31 many", x.many(3), 6);
    }

    private static void forget() {
        ThirteenthBun x = new ThirteenthBun();
        due("32 none", x.forget(), 0);
        x.report(0, 1, 4, 4);
        x.report(0, 0, 0, 0);
        due("32 how many", x.forget(), 2);
        due("32 there are none", x.many(3), 0);
        due("32 there are none", x.stories(0), 500);
        due("32 a number anew", x.report(0, 1, 4, 4), 0);
        due("32 only that counts", x.stories(0), 50);
    }

    /** One REPORT on a new object whose DUSK is none: how many FIT, and the first. */
    private static void one(int k, int asked, int least, int most, int... want) {
        ThirteenthBun x = new ThirteenthBun();
        for (int night = 0; night < 16; night++) {
            x.dusk(night, 3);
        }
        x.report(k, asked, least, most);
        String told = " of report " + k + " " + asked + " " + least + " " + most;
        due("33 how many" + told, x.stories(0), want[0]);
        for (int what = 1; what <= 3; what++) {
            due("33 first, " + what + told, x.stories(what), want[0] == 0 ? ThirteenthBun.NONE : want[what]);
        }
    }

    private static void storiesByHand() {
        one(0, 0, 26, 26, 500, 1, 0, 0);
        one(0, 0, 0, 25, 0);
        one(0, 0, 27, 99, 0);
        one(0, 1, 7, 8, 100, 1, 0, 7);
        one(5, 1, 7, 7, 50, 1, 0, 7);
        // Behind NIGHT 0, TRAY is 40 less RAIN, less what was asked, 1 more for less than 6 of DRAWS: for sad and
        // trouble 34 or 35 less RAIN, for a bride 28 less RAIN (from 6 on 27), for farms 16 or 17 less RAIN.
        one(1, 0, 35, 35, 3 + 2, 2, 0, 0);
        one(1, 0, 34, 34, 3 + 7 + 1 + 8, 2, 0, 1);
        one(1, 0, 7, 7, 10, 4, 0, 9);
        one(1, 0, 6, 6, 0);
        one(1, 0, 28, 28, 10 + 10 + 10, 1, 0, 0);
        // A lovell draws 0 in NIGHT 0, so 1 always comes back.
        one(1, 0, 17, 17, 10 + 6, 4, 0, 0);
        // In NIGHT 1 it takes nothing: a farm of GRIEF 9 is at 40 - 24 = 16, then 30; in NIGHT 2 at 20, in NIGHT 3 at 34.
        ThirteenthBun x = new ThirteenthBun();
        for (int night = 0; night < 16; night++) {
            x.dusk(night, 3);
        }
        x.report(0, 1, 0, 0);
        x.report(1, 0, 16, 16);
        due("33 farms of grief 6 to 9", x.stories(0), 4);
        due("33 the least grief", x.stories(2), 6);
        x.report(2, 0, 30, 30);
        x.report(3, 0, 20, 20);
        x.report(4, 0, 34, 34);
        due("33 in even nights", x.stories(0), 4);
        x.report(15, 0, 0, 63);
        due("33 behind 15 nights", x.stories(0), 4);
        due("33 kind", x.stories(1), 4);
        due("33 rain", x.stories(3), 0);
        due("33 bad", x.stories(-1), ThirteenthBun.BAD);
        due("33 bad", x.stories(4), ThirteenthBun.BAD);
        due("33 all else counts nothing", x.house(4, 0, 0, 0) + x.lane(0, 0, 9) + x.ends(2) + x.shop(1, 5), 0 + 0 + 12 + 26);
        due("33 all else counts nothing", x.stories(0), 4);
        x.forget();
        x.report(0, 0, 26, 26);
        x.report(0, 0, 26, 27);
        x.report(0, 0, 27, 27);
        due("33 none: bad ahead of none", x.stories(9), ThirteenthBun.BAD);
    }

    private static void storiesByRain() {
        ThirteenthBun x = new ThirteenthBun();
        x.dusk(0, 12);
        x.dusk(1, 13);
        x.dusk(2, 14);
        // RAIN at first 8: 9, 6, 5.
        x.report(1, 1, 9, 9);
        due("33 held at 9", x.stories(0), 200);
        due("33 held at 9", x.stories(3), 6);
        x.report(2, 1, 6, 6);
        x.report(3, 1, 5, 5);
        due("33 by its dusks", x.stories(0), 200);
        x.dusk(2, 3);
        due("33 by dusk as it is", x.stories(0), 0);
        x.forget();
        // RAIN 3 behind (1), not 0: a bride takes 13 and 1 comes back, as she draws 3.
        x.report(0, 1, 0, 0);
        x.report(1, 0, 26 - 13 + 1 + 14 - 3, 25);
        due("33 a bride draws by rain then", x.stories(1), 1);
        x.forget();
        x.report(0, 1, 3, 3);
        x.report(1, 0, 26 - 13 + 14 - 6, 21);
        due("33 a bride who draws 6 keeps it all", x.stories(1), 1);
        due("33 whatever her grief", x.stories(0), 10);
    }

    private static void liar() {
        ThirteenthBun x = new ThirteenthBun();
        due("34 all fit", x.liar(), ThirteenthBun.NONE);
        x.report(0, 1, 4, 4);
        due("34 some fit", x.liar(), ThirteenthBun.NONE);
        x.report(0, 0, 26, 26);
        x.report(0, 1, 5, 5);
        due("34 the least of two", x.liar(), 0);
        x.report(0, 1, 5, 6);
        due("34 only that", x.liar(), 0);
        x.report(0, 0, 1, 2);
        due("34 two are wrong", x.liar(), ThirteenthBun.NONE);
        x.forget();
        x.report(0, 1, 5, 5);
        x.report(0, 1, 5, 6);
        x.report(0, 1, 4, 4);
        due("34 the third", x.liar(), 2);
        due("34 it stays", x.many(3), 3);
        due("34 none fits", x.stories(0), 0);
        x.forget();
        x.report(0, 0, 0, 0);
        due("34 the only one", x.liar(), 0);
    }

    /** RAIN 1, 1, 3, 3, 5: a sad HOUSE without GRIEF is the only one that gives bread back in all of NIGHTS 0, 2, 4. */
    private static void onlyOneFits() {
        ThirteenthBun x = new ThirteenthBun();
        for (int night = 0; night < 16; night++) {
            x.dusk(night, night == 1 || night == 3 ? 8 : 3);
        }
        x.report(0, 1, 1, 1);
        x.report(5, 0, 64, 64);
        due("33 only one fits", x.stories(0), 1);
        due("33 only one fits", x.stories(1), 2);
        due("33 only one fits", x.stories(2), 0);
        due("33 only one fits", x.stories(3), 1);
        due("34 only one fits", x.liar(), ThirteenthBun.NONE);
    }

    private static void seed() {
        ThirteenthBun x = new ThirteenthBun();
        due("35 1 at first", x.seed(-8), 1);
        due("35 what it was", x.seed(Integer.MAX_VALUE), -8);
        due("35 what it was", x.seed(Integer.MIN_VALUE), Integer.MAX_VALUE);
        due("35 what it was", x.seed(0), Integer.MIN_VALUE);
    }

    private static ThirteenthBun sad() {
        ThirteenthBun x = new ThirteenthBun();
        x.house(2, 0, 9, 0);
        x.house(2, 0, 9, 1);
        return x;
    }

    private static void lot() {
        ThirteenthBun x = sad();
        int z = 1;
        int[] worth = {0, 11, 11};
        boolean[] isCalled = new boolean[3];
        int score = 0;
        for (int night = 0; night < 12; night++) {
            z = z * 1103515245 + 12345;
            int act = (int) ((z & 0xffffffffL) >> 16) % 3;
            int want = act > 0 && isCalled[act] ? 2 : worth[act];
            isCalled[act] = true;
            due("36 worth of night " + night, x.lot(), want);
            score += want;
            due("36 score", x.state(2), score);
            due("36 a night goes by", x.state(0), night + 1);
        }
        due("36 over", x.lot(), ThirteenthBun.STATE);
        due("36 z stays if refused", x.seed(0), z);
        ThirteenthBun y = new ThirteenthBun();
        due("36 no houses", y.lot(), 0);
        due("36 z goes on", y.seed(0), 1103515245 + 12345);
    }

    private static void times() {
        ThirteenthBun x = sad();
        x.ends(3);
        x.night();
        x.seed(77);
        int n = 40;
        int[] worths = new int[n];
        for (int i = 0; i < n; i++) {
            x.keep();
            worths[i] = x.lot() + x.lot();
            int z = x.seed(0);
            x.again();
            x.seed(z);
        }
        x.seed(77);
        for (int v = 0; v <= 30; v++) {
            int hits = 0;
            for (int i = 0; i < n; i++) {
                hits += worths[i] >= v ? 1 : 0;
                due("37 " + (i + 1) + " times " + v, i % 13 == 12 || i == 0 ? x.times(i + 1, v) : hits, hits);
            }
        }
        due("37 z is as it was", x.seed(77), 77);
        due("37 night is as it was", x.state(0), 1);
        due("37 score is as it was", x.state(2), 11);
        due("37 called as it was", x.state(5), 1);
        due("37 bad", x.times(0, 0), ThirteenthBun.BAD);
        due("37 bad", x.times(41, 0), ThirteenthBun.BAD);
        due("37 bad", x.times(1, -1), ThirteenthBun.BAD);
        due("37 bad", x.times(1, 1000), ThirteenthBun.BAD);
        due("37 999", x.times(40, 999), 0);
        x.ends(1);
        due("37 over", x.times(40, 0), 40);
        due("37 over", x.times(40, 1), 0);
    }
}
