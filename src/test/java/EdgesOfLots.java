import java.util.Arrays;

/** Boundary cases of promises 31 to 37: REPORTS and who FITS, nights by LOT. */
final class EdgesOfLots extends Edge {
    static void all() {
        report();
        forget();
        stories();
        whenAReportIsSo();
        whoIsStrange();
        whatIsTaken();
        liar();
        seed();
        lot();
        times();
    }

    private static void report() {
        says(31, "A REPORT: its number. BAD: also MOST below LEAST; FULL.");
        takes(0, 15, "report(k, 0, 0, 99)", Villages::five, (x, v) -> x.report(v, 0, 0, 99));
        takes(0, 1, "report(0, asked, 0, 9)", Villages::five, (x, v) -> x.report(0, v, 0, 9));
        says(31, "TRAY (asked 0; 0 to 99), or RAIN (1; 0 to 9) was from LEAST to MOST.");
        takes(0, 99, "report(0, 0, least, 99)", Villages::five, (x, v) -> x.report(0, 0, v, 99));
        takes(0, 99, "report(0, 0, 0, most)", Villages::five, (x, v) -> x.report(0, 0, 0, v));
        takes(0, 9, "report(0, 1, least, 9)", Villages::five, (x, v) -> x.report(0, 1, v, 9));
        takes(0, 9, "report(0, 1, 0, most)", Villages::five, (x, v) -> x.report(0, 1, 0, v));
        says(31, "A REPORT: its number. BAD: also MOST below LEAST; FULL.");
        takes(5, 99, "report(0, 0, 5, most)", Villages::five, (x, v) -> x.report(0, 0, 5, v));
        takes(0, 5, "report(0, 0, least, 5)", Villages::five, (x, v) -> x.report(0, 0, v, 5));
        takes(9, 9, "report(0, 1, 9, most)", Villages::five, (x, v) -> x.report(0, 1, 9, v));
        refused(ThirteenthBun.BAD, "report(0, 0, most, least)", Villages::five,
            x -> x.report(0, 0, Integer.MAX_VALUE, Integer.MIN_VALUE));
        says(31, "A REPORT (6 at most): behind k NIGHTS (0 to 15; from NIGHT 0 on, TRAY 26 then)");
        ThirteenthBun x = new ThirteenthBun();
        for (int i = 0; i < 6; i++) {
            is("report " + i, x.report(15 * (i % 2), i / 3, 0, 9), i);
            is("many(3)", x.many(3), i + 1);
        }
        is("the seventh", x.report(0, 0, 0, 99), ThirteenthBun.FULL);
        refused(ThirteenthBun.FULL, "report(0, 0, 0, 99)", Villages::full, v -> v.report(0, 0, 0, 99));
        refused(ThirteenthBun.FULL, "report(15, 1, 9, 9)", Villages::full, v -> v.report(15, 1, 9, 9));
        says(31, "of several the first named: BAD (-1) there is no such thing, or a number is not as told; FULL (-2)");
        int[][] bad = {{-1, 0, 0, 9}, {16, 0, 0, 9}, {0, -1, 0, 9}, {0, 2, 0, 9}, {0, 0, -1, 9}, {0, 0, 0, 100}, {0, 1, 0, 10},
            {0, 0, 1, 0}, {0, 1, 9, 8}};
        for (int[] b : bad) {
            refused(ThirteenthBun.BAD, "report" + Arrays.toString(b), Villages::full, v -> v.report(b[0], b[1], b[2], b[3]));
        }
    }

    private static void forget() {
        says(32, "There are no REPORTS: how many there were.");
        is("forget() of none", new ThirteenthBun().forget(), 0);
        ThirteenthBun x = Villages.full();
        is("forget() of six", x.forget(), 6);
        is("many(3)", x.many(3), 0);
        is("stories(0)", x.stories(0), 500);
        is("liar()", x.liar(), ThirteenthBun.NONE);
        is("forget() again", x.forget(), 0);
        for (int i = 0; i < 6; i++) {
            is("report " + i + " anew", x.report(0, 0, 26, 26), i);
        }
        is("the seventh", x.report(0, 0, 26, 26), ThirteenthBun.FULL);
    }

    /** None FITS, whichever REPORT is left out. */
    private static ThirteenthBun none() {
        ThirteenthBun x = Villages.still();
        x.report(0, 0, 27, 99);
        x.report(0, 0, 0, 25);
        return x;
    }

    private static void stories() {
        says(33, "STRANGE HOUSES that FIT: what = 0 how many;");
        takes(0, 3, "stories(what)", Villages::full, (x, v) -> x.stories(v));
        asked(500, "stories(0) without reports", Villages::still, x -> x.stories(0));
        asked(1, "stories(1) without reports", Villages::still, x -> x.stories(1));
        asked(0, "stories(2) without reports", Villages::still, x -> x.stories(2));
        asked(0, "stories(3) without reports", Villages::still, x -> x.stories(3));
        says(33, "of that with the least KIND, of these the least GRIEF, of these the least RAIN: 1 KIND, 2 GRIEF, 3 RAIN. BAD; NONE"
            + " (of 1, 2, 3): there are none.");
        asked(0, "stories(0) if none fits", EdgesOfLots::none, x -> x.stories(0));
        refused(ThirteenthBun.NONE, "stories(what) if none fits", EdgesOfLots::none, (x, v) -> x.stories(v), 1, 2, 3);
        says(33, "of several the first named: BAD (-1)");
        refused(ThirteenthBun.BAD, "stories(what) if none fits", EdgesOfLots::none, (x, v) -> x.stories(v), -1, 4);
    }

    /** How many FIT by REPORTS (of four numbers each) where the DUSK of each NIGHT is none, and the first of them. */
    private static void fit(int[] reports, int... want) {
        ThirteenthBun x = Villages.still();
        for (int i = 0; i < reports.length; i += 4) {
            x.report(reports[i], reports[i + 1], reports[i + 2], reports[i + 3]);
        }
        for (int what = 0; what < want.length; what++) {
            is("stories(" + what + ") by " + Arrays.toString(reports), x.stories(what), want[what]);
        }
    }

    private static void whenAReportIsSo() {
        says(33, "behind k NIGHTS (0 to 15; from NIGHT 0 on, TRAY 26 then)");
        fit(new int[] {0, 0, 26, 26}, 500, 1, 0, 0);
        fit(new int[] {0, 0, 27, 99}, 0);
        fit(new int[] {0, 0, 0, 25}, 0);
        ThirteenthBun x = Villages.still();
        x.dusk(14, 12);
        x.dusk(15, 13);
        x.report(15, 1, 3, 3);
        is("stories(0) behind 15 nights", x.stories(0), 50);
        is("stories(3) behind 15 nights", x.stories(3), 0);
        x.report(14, 1, 0, 0);
        is("stories(0) behind 14 nights, too", x.stories(0), 50);
        x.ends(1);
        x.night();
        is("stories(0), over", x.stories(0), 50);
        says(33, "was from LEAST to MOST.");
        fit(new int[] {0, 1, 0, 0}, 50, 1, 0, 0);
        fit(new int[] {0, 1, 9, 9}, 50, 1, 0, 9);
        fit(new int[] {0, 1, 4, 4}, 50, 1, 0, 4);
        fit(new int[] {0, 1, 4, 6}, 150, 1, 0, 4);
        fit(new int[] {0, 1, 1, 8}, 400, 1, 0, 1);
        fit(new int[] {0, 1, 0, 9}, 500, 1, 0, 0);
        fit(new int[] {0, 1, 4, 6, 0, 1, 6, 7}, 50, 1, 0, 6);
        says(33, "Those that FIT: by which each REPORT is so, by DUSK as it is.");
        ThirteenthBun y = Villages.still();
        y.report(1, 1, 9, 9);
        is("stories(0), no rain more", y.stories(0), 50);
        y.dusk(0, 12);
        is("stories(0), three more, 9 held", y.stories(0), 200);
        y.dusk(0, 13);
        is("stories(0), three less", y.stories(0), 0);
    }

    private static void whoIsStrange() {
        says(33, "A STRANGE HOUSE is a KIND (1 to 5; its number 0), GRIEF, and RAIN at first");
        // Behind NIGHT 0 without rain: a bride 28, sad ones 34 or 35, farms 16 or 17, lovells 26.
        fit(new int[] {0, 1, 0, 0, 1, 0, 28, 28}, 10, 1, 0, 0);
        fit(new int[] {0, 1, 0, 0, 1, 0, 26, 26}, 10, 5, 0, 0);
        fit(new int[] {0, 1, 0, 0, 1, 0, 16, 16}, 4, 4, 6, 0);
        fit(new int[] {0, 1, 0, 0, 1, 0, 17, 17}, 6, 4, 0, 0);
        fit(new int[] {0, 1, 0, 0, 1, 0, 34, 34}, 7 + 8, 2, 3, 0);
        fit(new int[] {0, 1, 0, 0, 1, 0, 35, 35}, 3 + 2, 2, 0, 0);
        says(33, "but 1 comes back, if it DRAWS (no LAMPS) less than 6.");
        // A bride draws as much as it rains: 5 is less than 6, and 6 isn't.
        fit(new int[] {0, 1, 5, 5, 1, 0, 26 - 13 + 1 + 9, 26 - 13 + 1 + 9}, 10, 1, 0, 5);
        fit(new int[] {0, 1, 6, 6, 1, 0, 26 - 13 + 8, 26 - 13 + 8}, 10, 1, 0, 6);
        // A farm draws as much as its GRIEF: of 5 it is less, of 6 it isn't.
        fit(new int[] {0, 1, 5, 5, 1, 0, 26 - 24 + 1 + 9, 26 - 24 + 1 + 9}, 6, 4, 0, 5);
        fit(new int[] {0, 1, 5, 5, 1, 0, 26 - 24 + 9, 26 - 24 + 9}, 4, 4, 6, 5);
        ThirteenthBun lamps = Villages.still();
        for (int g = 0; g < 6; g++) {
            lamps.lane(g, 0, 9);
        }
        lamps.report(0, 1, 6, 6);
        lamps.report(1, 0, 26 - 13 + 8, 26 - 13 + 8);
        is("stories(0) with lamps in all lanes", lamps.stories(0), 10);
    }

    private static void whatIsTaken() {
        says(33, "in each even NIGHT, behind (1), if TRAY is as much as it ASKS, it is so much less");
        // Farms of GRIEF 6 or more, RAIN 3: 26, 13, 24 (just what is asked), 11.
        fit(new int[] {0, 1, 3, 3, 1, 0, 13, 13, 2, 0, 24, 24, 3, 0, 11, 11}, 4, 4, 6, 3);
        // Farms of GRIEF 5 at most, RAIN 4: 26, 13, 23 (one less), 33.
        fit(new int[] {0, 1, 4, 4, 1, 0, 13, 13, 2, 0, 23, 23, 3, 0, 33, 33}, 6, 4, 0, 4);
        // A bride without rain: 26, 28, 42, 44, 58, 60.
        fit(new int[] {0, 1, 0, 0, 2, 0, 42, 42, 3, 0, 44, 44, 4, 0, 58, 58, 5, 0, 60, 60}, 10, 1, 0, 0);
        says(33, "TRAY is 14 less RAIN more (99 held).");
        // Sad ones without rain: 26, 34, 48, 56, 70, 78, 92, 100 or more.
        fit(new int[] {0, 1, 0, 0, 7, 0, 99, 99}, 20, 2, 0, 0);
        fit(new int[] {0, 1, 0, 0, 7, 0, 99, 99, 8, 0, 99, 99, 15, 0, 99, 99}, 20, 2, 0, 0);
        says(33, "by its DUSK RAIN is more, less by FORCE (0 to 9 held)");
        ThirteenthBun x = Villages.still();
        x.dusk(0, 12);
        x.report(0, 1, 3, 3);
        x.report(1, 0, 26 - 13 + 8, 26 - 13 + 8);
        is("stories(0): it draws 6 by the rain behind (1)", x.stories(0), 10);
        is("stories(1): it draws 6 by the rain behind (1)", x.stories(1), 1);
    }

    /** Six REPORTS, all so for a RAIN of 4 at first but the one told. */
    private static ThirteenthBun lies(int wrong) {
        ThirteenthBun x = Villages.still();
        for (int i = 0; i < 6; i++) {
            x.report(i, 1, i == wrong ? 5 : 4, i == wrong ? 9 : 4);
        }
        return x;
    }

    private static void liar() {
        says(34, "LIAR. NONE: some FIT; or there is no such REPORT.");
        refused(ThirteenthBun.NONE, "liar() without reports", Villages::still, ThirteenthBun::liar);
        refused(ThirteenthBun.NONE, "liar() where some fit", () -> lies(6), ThirteenthBun::liar);
        refused(ThirteenthBun.NONE, "liar() where two are wrong", EdgesOfLots::none, ThirteenthBun::liar);
        ThirteenthBun one = Villages.still();
        one.dusk(1, 8);
        one.dusk(3, 8);
        one.report(0, 1, 1, 1);
        one.report(5, 0, 64, 64);
        is("stories(0): just one fits", one.stories(0), 1);
        is("liar() where just one fits", one.liar(), ThirteenthBun.NONE);
        ThirteenthBun again = lies(2);
        is("liar(), 2 is wrong", again.liar(), 2);
        again.forget();
        is("liar() behind forget()", again.liar(), ThirteenthBun.NONE);
        again.report(0, 0, 27, 99);
        again.report(0, 0, 0, 25);
        is("liar() where two are wrong now", again.liar(), ThirteenthBun.NONE);
        says(34, "LIAR: if none FITS, the least REPORT but for which some would.");
        for (int i = 0; i < 6; i++) {
            int wrong = i;
            asked(i, "liar(), " + i + " is wrong", () -> lies(wrong), ThirteenthBun::liar);
        }
        ThirteenthBun x = Villages.still();
        x.report(0, 0, 0, 25);
        is("liar() of one", x.liar(), 0);
        x.report(0, 0, 26, 26);
        is("liar() of two", x.liar(), 0);
        ThirteenthBun y = Villages.still();
        y.report(0, 0, 26, 26);
        y.report(0, 1, 4, 4);
        y.report(3, 1, 5, 5);
        is("liar(): either one, the least", y.liar(), 1);
    }

    private static void seed() {
        says(35, "z becomes v: what it was.");
        ThirteenthBun x = new ThirteenthBun();
        int was = 1;
        int[] seeds = {Integer.MAX_VALUE, Integer.MIN_VALUE, -1, 0, -4};
        for (int v : seeds) {
            is("seed(" + v + ")", x.seed(v), was);
            was = v;
        }
    }

    private static int next(int z) {
        return (int) (z * 1103515245L + 12345L);
    }

    private static int actOf(int z, int houses) {
        return (int) ((z & 0xffffffffL) / 65536 % (houses + 1));
    }

    private static void lot() {
        says(36, "A NIGHT by LOT: what it was WORTH. STATE: it is OVER.");
        refused(ThirteenthBun.STATE, "lot()", Villages::fullAndOver, ThirteenthBun::lot);
        ThirteenthBun last = Villages.still();
        last.ends(1);
        is("lot() in the last night", last.lot(), 0);
        is("lot() behind it", last.lot(), ThirteenthBun.STATE);
        is("z of one lot", last.seed(0), next(1));
        says(36, "z (an int; 1 at first) becomes z * 1103515245 + 12345; the ACT in it is what z >>> 16 leaves by how many HOUSES"
            + " there are and 1.");
        int[] seeds = {1, 0, -1, 2, 3, 4, 5, Integer.MAX_VALUE, Integer.MIN_VALUE, Integer.MIN_VALUE + 1, 65535, 65536, -65536, 1 << 30};
        for (int houses = 0; houses <= 6; houses++) {
            for (int z : seeds) {
                byLot(houses, z);
            }
        }
    }

    private static void byLot(int houses, int z) {
        int act = actOf(next(z), houses);
        ThirteenthBun[] both = {Villages.still(), Villages.still()};
        for (ThirteenthBun x : both) {
            for (int k = 0; k < houses; k++) {
                x.house(2, 0, k, k);
            }
            x.sheet(0, Villages.BYTES, 1);
            x.write(0, 0, act);
        }
        both[0].seed(z);
        both[1].seed(next(z));
        is("lot() of " + houses + " houses by " + z, both[0].lot(), both[1].goAll(0, 0, 1));
        same("lot() of " + houses + " houses by " + z, both[0], both[1]);
    }

    /** One sad HOUSE and one NIGHT: WORTH 11, or 0 if the LOT is none. */
    private static ThirteenthBun oneNight(int z) {
        ThirteenthBun x = Villages.sad();
        x.ends(1);
        x.seed(z);
        return x;
    }

    private static int hits(int n, int z) {
        int hits = 0;
        int at = z;
        for (int i = 0; i < n; i++) {
            at = next(at);
            hits += actOf(at, 1);
        }
        return hits;
    }

    private static void times() {
        says(37, "How many of n (1 to 40) times all NIGHTS yet by LOT, each from how it is now (z goes on from one to the next), are"
            + " WORTH v (0 to 999) or more (all is as it was in the end, z, too). BAD.");
        takes(1, 40, "times(n, 0)", Villages::full, (x, v) -> x.times(v, 0));
        takes(0, 999, "times(3, v)", Villages::full, (x, v) -> x.times(3, v));
        takes(1, 40, "times(n, 0), over", Villages::fullAndOver, (x, v) -> x.times(v, 0));
        int[] seeds = {1, -1, Integer.MAX_VALUE, Integer.MIN_VALUE, 7};
        for (int z : seeds) {
            for (int n = 1; n <= 40; n++) {
                is("times(" + n + ", 11) by " + z, oneNight(z).times(n, 11), hits(n, z));
            }
            asked(40, "times(40, 0) by " + z, () -> oneNight(z), x -> x.times(40, 0));
            asked(hits(40, z), "times(40, 1) by " + z, () -> oneNight(z), x -> x.times(40, 1));
            asked(hits(40, z), "times(40, 11) by " + z, () -> oneNight(z), x -> x.times(40, 11));
            asked(0, "times(40, 12) by " + z, () -> oneNight(z), x -> x.times(40, 12));
            asked(0, "times(40, 999) by " + z, () -> oneNight(z), x -> x.times(40, 999));
        }
        asked(40, "times(40, 0), over", Villages::fullAndOver, x -> x.times(40, 0));
        asked(0, "times(40, 1), over", Villages::fullAndOver, x -> x.times(40, 1));
        asked(40, "times(40, 0), 11 nights each", Villages::full, x -> x.times(40, 0));
    }
}
