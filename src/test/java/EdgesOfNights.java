/** Boundary cases of promises 15 to 23: how a NIGHT goes by, THE REST, trays, steps, KIN, WALKS. */
final class EdgesOfNights extends Edge {
    static void all() {
        night();
        whoIsTold();
        gives();
        worths();
        sends();
        trays();
        on();
        when();
        griefFor();
        laneFor();
        full();
        bare();
        kin();
        walk();
    }

    private static void night() {
        says(15, "A NIGHT goes by as in THE REST: what it was WORTH. STATE: it is OVER.");
        refused(ThirteenthBun.STATE, "night()", Villages::fullAndOver, ThirteenthBun::night);
        ThirteenthBun x = Villages.sad();
        x.ends(1);
        is("night() in night 0 of 1", x.night(), 11);
        is("night() behind it", x.night(), ThirteenthBun.STATE);
        x.ends(16);
        for (int night = 1; night < 16; night++) {
            is("night() in night " + night, x.night(), 0);
        }
        is("night() in night 16", x.night(), ThirteenthBun.STATE);
        is("score", x.state(2), 11);
        says(15, "NIGHT: the one that comes (0 at first); from END on it is OVER.");
        is("state(0)", x.state(0), 16);
        is("state(3)", x.state(3), 1);
    }

    private static void whoIsTold() {
        says(15, "the least HOUSE being told that is not CALLED on, that is SERVED, where somebody WOULD call (none, if there"
            + " is none).");
        is("night() without houses", Villages.still().night(), 0);
        ThirteenthBun x = Villages.still();
        x.house(2, 27, 9, 0);
        x.house(2, 26, 9, 0);
        x.house(2, 0, 9, 0);
        is("26 isn't as much as a rank of 27", x.night(), 11);
        is("it was 1", x.state(5), 2);
        is("34 is", x.night(), 11);
        is("it was 0", x.state(5), 3);
        is("then 2", x.night(), 11);
        is("it was 2", x.state(5), 7);
        is("then none", x.night(), 0);
        is("none more", x.state(5), 7);
        says(15, "Somebody WOULD call, if it DRAWS as much as its LANE is DRY, or more.");
        int[][] dry = {{0, 9, 9}, {13, 7, 14}, {14, 7, 14}, {14, 6, 12}, {13, 6, 12}, {12, 6, 12}, {6, 3, 6}, {6, 2, 4}, {0, 0, 0},
            {1, 0, 0}};
        for (int[] d : dry) {
            ThirteenthBun y = Villages.sad();
            y.change(0, 2, d[1]);
            y.lane(0, 1, d[0]);
            is("night() of one who draws " + d[2] + ", dry " + d[0], y.night(), d[2] >= d[0] ? 11 : 0);
        }
        says(15, "If a HOUSE is told, it does as its WILL is: give (if no RULE tells), hold, or send");
        ThirteenthBun z = Villages.sad();
        z.house(2, 0, 9, 1);
        z.change(0, 4, 9);
        Check.tell(z, "sad if number = 0 and night < 1 hold; sad if number = 0 and night < 2 send;");
        is("it holds, and no other is told", z.night(), 0);
        is("its buns", z.houseOf(0, 4), 9);
        is("it sends, and no other is told", z.night(), 0);
        is("its buns", z.houseOf(0, 4), 0);
        is("it gives", z.night(), 11);
        is("the other", z.night(), 11);
    }

    /** A sad HOUSE, TRAY as told, and what a NIGHT with it is WORTH, its BUNS and TRAY behind it. */
    private static void one(String call, ThirteenthBun x, int worth, int buns, int tray) {
        is(call, Villages.go(x, 1), worth);
        is(call + ": buns", x.houseOf(0, 4), buns);
        is(call + ": tray", x.state(8), tray);
    }

    private static ThirteenthBun dry(int buns) {
        ThirteenthBun x = Villages.sad();
        x.change(0, 2, 0);
        x.change(0, 4, buns);
        return x;
    }

    private static void gives() {
        says(15, "give: if it is SERVED, TRAY is less by what it ASKS, BUNS are 1 more (9 held); WORTH 1, if nobody WOULD call;");
        for (int buns = 0; buns <= 9; buns++) {
            one("give with " + buns + " buns", dry(buns), 1, Math.min(9, buns + 1), 26 - 6 + 14);
        }
        ThirteenthBun x = dry(4);
        x.shop(1, 6);
        one("give from a tray of 6", x, 1, 5, 14);
        x.shop(1, 5);
        one("not served from 5", x, 0, 5, 19);
        x.shop(1, 0);
        one("not served from 0", x, 0, 5, 14);
        x.change(0, 1, 60);
        x.shop(1, 59);
        one("not served below its rank", x, 0, 5, 73);
        x.shop(1, 60);
        one("served at its rank", x, 1, 6, 68);
        is("nobody called", x.state(5), 0);
    }

    private static void worths() {
        says(15, "else WORTH twice its BUNS, and 9 more, if it was not CALLED on; it is CALLED on, its BUNS are 0.");
        for (int buns = 0; buns <= 9; buns++) {
            int held = Math.min(9, buns + 1);
            ThirteenthBun x = Villages.sad();
            x.change(0, 4, buns);
            one("called on with " + buns, x, 2 * held + 9, 0, 34);
            is("called", x.houseOf(0, 5), 1);
            x.change(0, 4, buns);
            one("called on again with " + buns, x, 2 * held, 0, 42);
            is("called", x.houseOf(0, 5), 1);
        }
        says(15, "SCORE: what NIGHTS were WORTH (0 at first).");
        ThirteenthBun x = Villages.sad();
        int score = 0;
        for (int night = 0; night < 12; night++) {
            x.change(0, 5, 0);
            x.change(0, 4, 9);
            score += x.night();
            is("score", x.state(2), score);
        }
        is("27 each", score, 12 * 27);
    }

    private static void sends() {
        says(15, "send: its BUNS come to TRAY (99 held), they are 0, WORTH 0.");
        int[][] sent = {{0, 26}, {9, 26}, {9, 0}, {0, 0}, {9, 76}, {9, 77}, {9, 90}, {9, 91}, {1, 99}, {9, 99}};
        for (int[] s : sent) {
            ThirteenthBun x = Villages.sad();
            Check.tell(x, "sad send;");
            x.change(0, 4, s[0]);
            x.shop(1, s[1]);
            one("send " + s[0] + " to " + s[1], x, 0, 0, Math.min(99, s[0] + s[1] + 14));
            is("nobody called", x.state(5), 0);
        }
    }

    private static void trays() {
        says(15, "TRAY is 14 less RAIN more (99 held). NIGHT is 1 more.");
        int[][] trays = {{0, 0, 14}, {0, 9, 5}, {84, 0, 98}, {85, 0, 99}, {86, 0, 99}, {99, 0, 99}, {93, 9, 98}, {94, 9, 99}, {95, 9, 99},
            {99, 9, 99}};
        for (int[] t : trays) {
            ThirteenthBun x = Villages.still();
            x.shop(1, t[0]);
            x.shop(0, t[1]);
            x.night();
            is("tray behind " + t[0] + " with rain " + t[1], x.state(8), t[2]);
            is("night", x.state(0), 1);
        }
    }

    private static void on() {
        says(16, "What n (0 to 16) NIGHTS of THE REST (fewer, if it is OVER) are WORTH. BAD.");
        takes(0, 16, "on(n)", Villages::full, (x, v) -> x.on(v));
        takes(0, 16, "on(n)", Villages::fullAndOver, (x, v) -> x.on(v));
        ThirteenthBun x = Villages.still();
        for (int k = 0; k < 6; k++) {
            x.house(2, 0, 9, k);
        }
        for (int n = 0; n <= 16; n++) {
            is("on(" + n + ")", x.on(n), 11 * Math.min(n, 6));
        }
        x.ends(4);
        for (int n = 0; n <= 16; n++) {
            is("on(" + n + ") of 4 nights", x.on(n), 11 * Math.min(n, 4));
        }
        x.ends(16);
        x.lane(5, 1, 14);
        x.change(5, 2, 0);
        for (int night = 0; night < 15; night++) {
            x.night();
        }
        x.change(5, 2, 9);
        is("on(0) in night 15", x.on(0), 0);
        is("on(1) in night 15", x.on(1), 11);
        is("on(16) in night 15", x.on(16), 11);
        asked(0, "on(16) when it is over", Villages::fullAndOver, v -> v.on(16));
        asked(0, "on(0)", Villages::full, v -> v.on(0));
    }

    /** NIGHTS till 15 with a bride who is called on in NIGHT 15 alone, as it rains then. */
    private static ThirteenthBun late() {
        ThirteenthBun x = Villages.still();
        x.ends(16);
        x.shop(0, 3);
        x.dusk(15, 12);
        x.house(1, 0, 0, 0);
        return x;
    }

    private static void when() {
        says(17, "The first NIGHT of THE REST behind which a HOUSE is CALLED on. BAD; NONE (also if it is now).");
        takes(0, 5, "when(k)", Villages::full, (x, v) -> x.when(v));
        refused(ThirteenthBun.BAD, "when(k) of none", Villages::anew, (x, v) -> x.when(v), -1, 0, 1);
        is("in night 0", Villages.sad().when(0), 0);
        is("in night 15", late().when(0), 15);
        ThirteenthBun later = late();
        later.night();
        later.night();
        is("in night 15, from night 2 on", later.when(0), 15);
        refused(ThirteenthBun.NONE, "when(0) ending ahead of it", () -> {
            ThirteenthBun x = late();
            x.ends(15);
            return x;
        }, x -> x.when(0));
        refused(ThirteenthBun.NONE, "when(0), called on now", () -> {
            ThirteenthBun x = Villages.sad();
            x.change(0, 5, 1);
            return x;
        }, x -> x.when(0));
        refused(ThirteenthBun.NONE, "when(5), over", () -> {
            ThirteenthBun x = Villages.fullAndOver();
            x.change(5, 5, 0);
            return x;
        }, x -> x.when(5));
        asked(0, "when(0)", Villages::sad, x -> x.when(0));
        says(17, "of several the first named: BAD (-1)");
        refused(ThirteenthBun.BAD, "when(k), over", Villages::fullAndOver, (x, v) -> x.when(v), -1, 6);
    }

    private static void griefFor() {
        says(18, "GRIEF with which a HOUSE makes THE REST WORTH most; of several the least. BAD.");
        takes(0, 5, "griefFor(k)", Villages::full, (x, v) -> x.griefFor(v));
        refused(ThirteenthBun.BAD, "griefFor(k) of none", Villages::anew, (x, v) -> x.griefFor(v), -1, 0, 1);
        for (int dry = 0; dry <= 14; dry++) {
            ThirteenthBun x = Villages.sad();
            x.lane(0, 1, dry);
            is("griefFor(0), dry " + dry, x.griefFor(0), (dry + 1) / 2);
        }
        ThirteenthBun x = Villages.sad();
        x.lane(0, 0, 9);
        x.lane(0, 1, 9);
        is("griefFor(0), the greatest", x.griefFor(0), 9);
        x.lane(0, 1, 10);
        is("griefFor(0), where none does", x.griefFor(0), 0);
        asked(0, "griefFor(0), over", Villages::fullAndOver, v -> v.griefFor(0));
        ThirteenthBun y = Villages.sad();
        y.house(2, 0, 9, 1);
        y.ends(1);
        is("griefFor(0), as another is told else", y.griefFor(0), 0);
        Check.tell(y, "sad if number=0 and grief<8 hold;");
        is("griefFor(0), as it must give or let the other", y.griefFor(0), 0);
        y.ends(2);
        Check.tell(y, "sad if number=0 and grief<8 and draws>5 hold;");
        is("griefFor(0): both", y.griefFor(0), 8);
    }

    private static void laneFor() {
        says(19, "LANE likewise. BAD.");
        takes(0, 5, "laneFor(k)", Villages::full, (x, v) -> x.laneFor(v));
        refused(ThirteenthBun.BAD, "laneFor(k) of none", Villages::anew, (x, v) -> x.laneFor(v), -1, 0, 1);
        for (int g = 0; g < 6; g++) {
            ThirteenthBun x = Villages.sad();
            x.change(0, 2, 6);
            for (int other = 0; other < g; other++) {
                x.lane(other, 1, 13);
            }
            is("laneFor(0), of several the least: " + g, x.laneFor(0), g);
        }
        ThirteenthBun x = Villages.sad();
        for (int g = 0; g < 6; g++) {
            x.lane(g, 0, 9);
            x.lane(g, 1, 14);
        }
        x.change(0, 3, 4);
        is("laneFor(0), where none is better", x.laneFor(0), 0);
        asked(0, "laneFor(3), over", Villages::fullAndOver, v -> v.laneFor(3));
    }

    private static void full() {
        says(20, "FULL v (0 to 99). BAD; NONE.");
        takes(0, 99, "full(v)", Villages::full, (x, v) -> x.full(v));
        says(20, "FULL v: the first NIGHT of THE REST behind which TRAY is v or more.");
        ThirteenthBun x = Villages.still();
        x.ends(16);
        int[][] behind = {{0, 0}, {40, 0}, {41, 1}, {54, 1}, {55, 2}, {68, 2}, {69, 3}, {82, 3}, {83, 4}, {96, 4}, {97, 5}, {99, 5}};
        for (int[] b : behind) {
            is("full(" + b[0] + ")", x.full(b[0]), b[1]);
        }
        ThirteenthBun later = Villages.still();
        later.night();
        later.night();
        is("full(0), from night 2 on", later.full(0), 2);
        is("full(99), from night 2 on", later.full(99), 5);
        x.shop(0, 9);
        is("full(99), 5 a night", x.full(99), 14);
        x.shop(1, 20);
        is("full(99) in night 15", x.full(99), 15);
        says(20, "FULL v (0 to 99). BAD; NONE.");
        x.shop(1, 18);
        is("full(98)", x.full(98), 15);
        is("full(99)", x.full(99), ThirteenthBun.NONE);
        refused(ThirteenthBun.NONE, "full(v), over", Villages::fullAndOver, (v, n) -> v.full(n), 0, 99);
        says(20, "of several the first named: BAD (-1)");
        refused(ThirteenthBun.BAD, "full(v), over", Villages::fullAndOver, (v, n) -> v.full(n), -1, 100);
        says(20, "FULL v (0 to 99). BAD; NONE.");
        asked(0, "full(0)", Villages::sad, v -> v.full(0));
    }

    private static void bare() {
        says(21, "What = 0 in how many NIGHTS of THE REST no more HOUSE is CALLED on, 1 TRAY behind THE REST. BAD.");
        takes(0, 1, "bare(what)", Villages::full, (x, v) -> x.bare(v));
        is("bare(0) without houses", Villages.still().bare(0), 12);
        is("bare(1) without houses", Villages.still().bare(1), 99);
        ThirteenthBun x = Villages.still();
        for (int k = 0; k < 6; k++) {
            x.house(2, 0, 9, k);
        }
        for (int end = 1; end <= 16; end++) {
            x.ends(end);
            is("bare(0) of " + end, x.bare(0), Math.max(0, end - 6));
            is("bare(1) of " + end, x.bare(1), Math.min(99, 26 + 14 * end - 6 * Math.min(end, 6)));
        }
        asked(0, "bare(0), over", Villages::fullAndOver, v -> v.bare(0));
        is("bare(1), over", Villages.fullAndOver().bare(1), Villages.fullAndOver().state(8));
    }

    private static void kin() {
        says(22, "KIN: what -1 how many, 0 .. 5 HOUSES that are of that HOUSE's, as a set (0: it is CALLED on). BAD: also no such"
            + " HOUSE.");
        takes(-1, 5, "kin(what)", Villages::full, (x, v) -> x.kin(v));
        takes(-1, 4, "kin(what)", Villages::five, (x, v) -> x.kin(v));
        refused(ThirteenthBun.BAD, "kin(what) of none", Villages::anew, (x, v) -> x.kin(v), -2, 0, 5);
        asked(0, "kin(-1) without houses", Villages::anew, x -> x.kin(-1));
        ThirteenthBun one = Villages.sad();
        is("kin(-1) of one", one.kin(-1), 1);
        is("kin(0) of one", one.kin(0), 1);
        one.change(0, 5, 1);
        is("kin(-1) of one that is called on", one.kin(-1), 0);
        is("kin(0) of one that is called on", one.kin(0), 0);
        says(22, "CLOSE: two HOUSES that aren't CALLED on, of one LANE, or whose GRIEF is 1 apart at most");
        int[][] apart = {{5, 5, 1}, {5, 6, 1}, {6, 5, 1}, {5, 7, 0}, {7, 5, 0}, {0, 9, 0}, {0, 1, 1}, {9, 8, 1}, {9, 0, 0}};
        for (int[] a : apart) {
            ThirteenthBun x = new ThirteenthBun();
            x.house(1, 0, a[0], 0);
            x.house(1, 0, a[1], 5);
            is("kin(0) of grief " + a[0] + " and " + a[1], x.kin(0), a[2] == 1 ? 3 : 1);
            is("kin(-1)", x.kin(-1), 2 - a[2]);
            x.change(1, 3, 0);
            is("kin(1) in one lane", x.kin(1), 3);
            x.change(0, 5, 1);
            is("kin(1), the other called on", x.kin(1), 2);
            is("kin(-1), the other called on", x.kin(-1), 1);
        }
        says(22, "KIN: all that hang together so, one by the other.");
        ThirteenthBun chain = new ThirteenthBun();
        int[][] links = {{5, 0}, {0, 0}, {1, 1}, {8, 1}, {7, 2}, {5, 2}};
        for (int[] l : links) {
            chain.house(1, 0, l[0], l[1]);
        }
        is("kin(0): 0, 1, 2, 3, 4, 5 in a row", chain.kin(0), 63);
        is("kin(5)", chain.kin(5), 63);
        is("kin(-1)", chain.kin(-1), 1);
        chain.change(5, 2, 9);
        chain.change(3, 5, 1);
        is("kin(0), parted", chain.kin(0), 1 + 2 + 4);
        is("kin(3), called on", chain.kin(3), 0);
        is("kin(4), parted", chain.kin(4), 16 + 32);
        is("kin(-1), parted", chain.kin(-1), 2);
    }

    private static void walk() {
        says(23, "WALK from a LANE: what 0 how many LANES, 1 the first HOUSE. BAD; NONE (what 1): all are CALLED on.");
        takes(0, 5, "walk(lane, 0)", Villages::full, (x, v) -> x.walk(v, 0));
        takes(0, 5, "walk(lane, 1)", Villages::five, (x, v) -> x.walk(v, 1));
        takes(0, 1, "walk(0, what)", Villages::five, (x, v) -> x.walk(0, v));
        refused(ThirteenthBun.NONE, "walk(0, 1) without houses", Villages::anew, x -> x.walk(0, 1));
        asked(0, "walk(5, 0) without houses", Villages::anew, x -> x.walk(5, 0));
        ThirteenthBun called = Villages.full();
        for (int k = 0; k < 6; k++) {
            called.change(k, 5, 1);
        }
        is("walk(3, 0), all called on", called.walk(3, 0), 0);
        is("walk(3, 1), all called on", called.walk(3, 1), ThirteenthBun.NONE);
        says(23, "of several the first named: BAD (-1)");
        refused(ThirteenthBun.BAD, "walk(lane, 1) without houses", Villages::anew, (x, v) -> x.walk(v, 1), -1, 6);
        refused(ThirteenthBun.BAD, "walk(0, what) without houses", Villages::anew, (x, v) -> x.walk(0, v), -1, 2);
        says(23, "WALK from a LANE: the fewest LANES (the shorter way round) to go to LANES of all HOUSES");
        int[] round = {0, 1, 2, 3, 2, 1};
        for (int from = 0; from < 6; from++) {
            for (int to = 0; to < 6; to++) {
                ThirteenthBun x = new ThirteenthBun();
                x.house(1, 0, 0, to);
                is("walk(" + from + ", 0) to " + to, x.walk(from, 0), round[(to - from + 6) % 6]);
            }
        }
        ThirteenthBun all = new ThirteenthBun();
        for (int g = 0; g < 6; g++) {
            all.house(1, 0, 0, g);
        }
        for (int from = 0; from < 6; from++) {
            is("walk(" + from + ", 0) to all", all.walk(from, 0), 5);
            is("walk(" + from + ", 1) to all", all.walk(from, 1), from);
        }
        says(23, "of several rows the FIRST: the least HOUSE first, where they are unlike first.");
        for (int g = 0; g < 6; g++) {
            all.change(g, 3, 2);
        }
        is("walk(2, 1), all there", all.walk(2, 1), 0);
        is("walk(2, 0), all there", all.walk(2, 0), 0);
        is("walk(5, 0), all there", all.walk(5, 0), 3);
        all.change(0, 5, 1);
        is("walk(5, 1), the least that waits", all.walk(5, 1), 1);
        all.change(5, 3, 1);
        all.change(1, 3, 4);
        is("walk(2, 0): 2, then 1, then 4", all.walk(2, 0), 4);
        is("walk(2, 1): house 1 first takes more", all.walk(2, 1), 2);
        all.change(2, 5, 1);
        all.change(3, 5, 1);
        all.change(4, 5, 1);
        all.change(1, 3, 3);
        is("walk(2, 0): either way", all.walk(2, 0), 3);
        is("walk(2, 1): either way", all.walk(2, 1), 1);
        is("walk(1, 1)", all.walk(1, 1), 5);
    }
}
