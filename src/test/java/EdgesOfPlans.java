/** Boundary cases of promises 24 to 30 and 38 to 41: PLANS, the GAME, ROWS and who reads them. */
final class EdgesOfPlans extends Edge {
    static void all() {
        best();
        ith();
        ways();
        round();
        bars();
        game();
        triedOneByOne();
        play();
        prove();
        rows();
        judge();
    }

    /** A sad HOUSE that is called on at once, a bride at whom nobody would call; END as told. */
    private static ThirteenthBun two(int end) {
        ThirteenthBun x = Villages.sad();
        x.house(1, 0, 9, 1);
        x.ends(end);
        return x;
    }

    private static ThirteenthBun over() {
        ThirteenthBun x = two(1);
        x.night();
        return x;
    }

    private static ThirteenthBun six() {
        ThirteenthBun x = Villages.still();
        for (int k = 0; k < 6; k++) {
            x.house(2, 0, 9, k);
        }
        return x;
    }

    private static void best() {
        says(24, "WORTH of the BEST PLANS of n (0 to 4). BAD.");
        takes(0, 4, "best(n)", Villages::full, (x, v) -> x.best(v));
        takes(0, 4, "best(n), over", Villages::fullAndOver, (x, v) -> x.best(v));
        int[] worths = {0, 11, 13, 15, 17};
        for (int n = 0; n <= 4; n++) {
            int with = n;
            asked(worths[n], "best(" + n + ")", () -> two(12), x -> x.best(with));
            is("best(" + n + ") of six", six().best(n), 11 * n);
            is("best(" + n + ") without houses", Villages.still().best(n), 0);
        }
        says(24, "A PLAN of n: n NIGHTS (fewer, if it is OVER)");
        for (int end = 1; end <= 5; end++) {
            for (int n = 0; n <= 4; n++) {
                is("best(" + n + ") of " + end + " nights", two(end).best(n), worths[Math.min(n, end)]);
            }
        }
        is("best(4), over", over().best(4), 0);
        ThirteenthBun x = two(16);
        for (int night = 0; night < 15; night++) {
            x.night();
        }
        is("best(4) in night 15", x.best(4), 2);
    }

    private static void ith() {
        says(25, "The i-th (0 to 3) ACT of the FIRST of them. BAD; NONE: it has not so many.");
        takes(0, 4, "ith(n, 0)", Villages::full, (x, v) -> x.ith(v, 0));
        takes(0, 3, "ith(4, i)", Villages::full, (x, v) -> x.ith(4, v));
        for (int n = 0; n <= 4; n++) {
            for (int i = 0; i <= 3; i++) {
                is("ith(" + n + ", " + i + ")", two(12).ith(n, i), i < n ? 1 : ThirteenthBun.NONE);
                is("ith(" + n + ", " + i + ") of 2 nights", two(2).ith(n, i), i < Math.min(n, 2) ? 1 : ThirteenthBun.NONE);
            }
        }
        refused(ThirteenthBun.NONE, "ith(0, i)", Villages::full, (x, v) -> x.ith(0, v), 0, 3);
        refused(ThirteenthBun.NONE, "ith(3, 3)", Villages::full, x -> x.ith(3, 3));
        refused(ThirteenthBun.NONE, "ith(4, i), over", Villages::fullAndOver, (x, v) -> x.ith(4, v), 0, 3);
        says(25, "of several the first named: BAD (-1)");
        refused(ThirteenthBun.BAD, "ith(n, 3), over", Villages::fullAndOver, (x, v) -> x.ith(v, 3), -1, 5);
        refused(ThirteenthBun.BAD, "ith(0, i), over", Villages::fullAndOver, (x, v) -> x.ith(0, v), -1, 4);
        says(25, "ahead of each an ACT: 0 none is told, or 1 more than the number of the HOUSE that is.");
        for (int k = 0; k < 6; k++) {
            ThirteenthBun x = six();
            for (int other = 0; other < 6; other++) {
                x.change(other, 1, other == k ? 0 : 60);
            }
            is("ith(1, 0) where only house " + k + " is served", x.ith(1, 0), k + 1);
            Check.tell(x, "sad hold;");
            is("ith(1, 0) where all hold", x.ith(1, 0), 0);
        }
        says(25, "the FIRST of these is that with the lesser ACT where they are unlike first.");
        ThirteenthBun six = six();
        for (int i = 0; i <= 3; i++) {
            is("ith(4, " + i + ") of six", six.ith(4, i), i + 1);
            is("ith(4, " + i + ") without houses", Villages.still().ith(4, i), 0);
        }
        six.change(0, 5, 1);
        is("ith(1, 0), 0 called on", six.ith(1, 0), 2);
    }

    private static void ways() {
        says(26, "How many of them there are. BAD.");
        takes(0, 4, "ways(n)", Villages::full, (x, v) -> x.ways(v));
        int[] ofSix = {1, 6, 30, 120, 360};
        for (int n = 0; n <= 4; n++) {
            int with = n;
            asked(ofSix[n], "ways(" + n + ") of six", EdgesOfPlans::six, x -> x.ways(with));
            is("ways(" + n + ") without houses", Villages.still().ways(n), 1);
            is("ways(" + n + "), over", over().ways(n), 1);
        }
        says(26, "A PLAN of n: n NIGHTS (fewer, if it is OVER)");
        ThirteenthBun x = six();
        x.ends(2);
        is("ways(4) of 2 nights", x.ways(4), 30);
        x.ends(3);
        is("ways(4) of 3 nights", x.ways(4), 120);
        for (int k = 0; k < 6; k++) {
            x.change(k, 1, 60);
        }
        x.shop(1, 0);
        is("ways(4) of 3 nights, all alike", x.ways(4), 7 * 7 * 7);
        x.ends(4);
        is("ways(4) of 4 nights, all alike", x.ways(4), 7 * 7 * 7 * 7);
    }

    private static void round() {
        says(27, "ROUND by n (0 to 4), a set of HOUSES (of such as there are). BAD; NONE.");
        takes(0, 4, "round(n, 0)", Villages::full, (x, v) -> x.round(v, 0));
        takes(0, 63, "round(4, houses)", Villages::full, (x, v) -> x.round(4, v));
        takes(0, 31, "round(2, houses) of five", Villages::five, (x, v) -> x.round(2, v));
        takes(0, 0, "round(2, houses) of none", Villages::anew, (x, v) -> x.round(2, v));
        says(27, "ROUND by n, a set of HOUSES: the fewest ACTS that aren't 0 in a PLAN of n behind which each of them is CALLED on.");
        int[] sets = {0, 1, 32, 3, 40, 7, 56, 15, 60};
        for (int set : sets) {
            int many = Integer.bitCount(set);
            for (int n = 0; n <= 4; n++) {
                is("round(" + n + ", " + set + ") of six", six().round(n, set), n < many ? ThirteenthBun.NONE : many);
            }
        }
        asked(4, "round(4, 15)", EdgesOfPlans::six, x -> x.round(4, 15));
        ThirteenthBun x = six();
        x.change(5, 5, 1);
        is("round(0, 32), called on now", x.round(0, 32), 0);
        is("round(4, 33), one called on now", x.round(4, 33), 1);
        is("round(1, 33), one called on now", x.round(1, 33), 1);
        is("round(4, 62), one called on now", x.round(4, 62), 4);
        says(27, "ROUND by n (0 to 4), a set of HOUSES (of such as there are). BAD; NONE.");
        refused(ThirteenthBun.NONE, "round(4, 31) of six", EdgesOfPlans::six, v -> v.round(4, 31));
        refused(ThirteenthBun.NONE, "round(0, 2) of two", () -> two(12), v -> v.round(0, 2));
        refused(ThirteenthBun.NONE, "round(4, 2), over", EdgesOfPlans::over, v -> v.round(4, 2));
        is("round(4, 1), over", over().round(4, 1), 0);
        says(27, "of several the first named: BAD (-1)");
        refused(ThirteenthBun.BAD, "round(n, 2), over", EdgesOfPlans::over, (v, n) -> v.round(n, 2), -1, 5);
        refused(ThirteenthBun.BAD, "round(4, houses), over", EdgesOfPlans::over, (v, n) -> v.round(4, n), -1, 4, 7);
    }

    private static void bars() {
        says(28, "BAR likewise. BAD; NONE: each is so behind some.");
        takes(0, 4, "bars(n, 63)", Villages::full, (x, v) -> x.bars(v, 63));
        takes(0, 63, "bars(1, houses)", Villages::full, (x, v) -> x.bars(1, v));
        takes(0, 31, "bars(1, houses) of five", Villages::five, (x, v) -> x.bars(1, v));
        takes(0, 0, "bars(1, houses) of none", Villages::anew, (x, v) -> x.bars(1, v));
        says(28, "BAR: the least of them that is so behind no PLAN of n.");
        is("bars(0, 63) of six", six().bars(0, 63), 0);
        is("bars(0, 32) of six", six().bars(0, 32), 5);
        is("bars(0, 48) of six", six().bars(0, 48), 4);
        is("bars(4, 2) of two", two(12).bars(4, 2), 1);
        is("bars(4, 3) of two", two(12).bars(4, 3), 1);
        asked(1, "bars(4, 3), over", EdgesOfPlans::over, x -> x.bars(4, 3));
        says(28, "BAR likewise. BAD; NONE: each is so behind some.");
        refused(ThirteenthBun.NONE, "bars(1, 63) of six", EdgesOfPlans::six, x -> x.bars(1, 63));
        refused(ThirteenthBun.NONE, "bars(4, 0)", Villages::full, x -> x.bars(4, 0));
        refused(ThirteenthBun.NONE, "bars(0, 1), called on now", EdgesOfPlans::over, x -> x.bars(0, 1));
        ThirteenthBun six = six();
        is("bars(4, 63)", six.bars(4, 63), ThirteenthBun.NONE);
        is("bars(0, 63) behind it", six.bars(0, 63), 0);
        says(28, "of several the first named: BAD (-1)");
        refused(ThirteenthBun.BAD, "bars(n, 0)", Villages::full, (x, v) -> x.bars(v, 0), -1, 5);
        refused(ThirteenthBun.BAD, "bars(4, houses), over", EdgesOfPlans::over, (x, v) -> x.bars(4, v), -1, 4, 7);
    }

    private static void game() {
        says(29, "VALUE of a GAME of n (1 to 4). BAD.");
        takes(1, 4, "game(n)", Villages::full, (x, v) -> x.game(v));
        takes(1, 4, "game(n), over", Villages::fullAndOver, (x, v) -> x.game(v));
        says(29, "GAME of n: two in turn, ahead of n NIGHTS (till it is OVER) each an ACT (also 0); the first one wants as much WORTH"
            + " as can be, the other one as little.");
        int[] worths = {0, 11, 11, 13, 13};
        int[] ofSix = {0, 11, 11, 22, 22};
        for (int n = 1; n <= 4; n++) {
            int with = n;
            asked(worths[n], "game(" + n + ")", () -> two(12), x -> x.game(with));
            is("game(" + n + ") of six", six().game(n), ofSix[n]);
            is("game(" + n + ") without houses", Villages.still().game(n), 0);
            is("game(" + n + "), over", over().game(n), 0);
            for (int end = 1; end <= 4; end++) {
                is("game(" + n + ") of " + end + " nights", two(end).game(n), worths[Math.min(n, end)]);
            }
        }
    }

    /** Plans are tried in RAIN that changes, with BUNS: each by itself, as if the others had not been. */
    private static void triedOneByOne() {
        says(24, "What is asked changes nothing, if not told.");
        for (int n = 0; n <= 4; n++) {
            int with = n;
            ThirteenthBun x = Villages.full();
            int best = x.best(n);
            int ways = x.ways(n);
            asked(best, "best(" + n + ")", Villages::full, v -> v.best(with));
            asked(ways, "ways(" + n + ")", Villages::full, v -> v.ways(with));
            is("best(" + n + ") once more", x.best(n), best);
            int rows = x.prove(n);
            int together = 0;
            for (int k = 0; k < rows; k++) {
                together += x.row(k, 1);
            }
            is("rows of prove(" + n + ") together", together, best);
            is("judge() of them", x.judge(), 0);
        }
    }

    private static void play() {
        says(30, "The least ACT by which who begins comes to it. BAD; NONE: it is OVER.");
        takes(1, 4, "play(n)", Villages::full, (x, v) -> x.play(v));
        refused(ThirteenthBun.NONE, "play(n), over", Villages::fullAndOver, (x, v) -> x.play(v), 1, 2, 3, 4);
        says(30, "of several the first named: BAD (-1)");
        refused(ThirteenthBun.BAD, "play(n), over", Villages::fullAndOver, (x, v) -> x.play(v), 0, -1, 5);
        says(30, "The least ACT by which who begins comes to it.");
        for (int n = 1; n <= 4; n++) {
            int with = n;
            asked(1, "play(" + n + ") of six", EdgesOfPlans::six, x -> x.play(with));
            is("play(" + n + ") without houses", Villages.still().play(n), 0);
        }
        ThirteenthBun x = six();
        for (int k = 0; k < 6; k++) {
            is("play(2), from house " + k + " on", x.play(2), k + 1);
            x.change(k, 5, 1);
        }
        is("play(1), all called on", x.play(1), 1);
        Check.tell(x, "house hold;");
        is("play(1), all alike", x.play(1), 0);
        is("play(1) in the last night", two(1).play(4), 1);
        ThirteenthBun last = two(12);
        last.lane(0, 1, 14);
        last.change(0, 2, 0);
        last.shop(1, 6);
        is("play(1): 6 is no bride's", last.play(1), 1);
        last.change(0, 1, 60);
        last.shop(1, 13);
        is("play(1): the last act", last.play(1), 2);
    }

    private static void prove() {
        says(38, "ROWS of the FIRST of the BEST PLANS of n (0 to 4): how many. BAD.");
        takes(0, 4, "prove(n)", Villages::full, (x, v) -> x.prove(v));
        takes(0, 4, "prove(n), over", Villages::fullAndOver, (x, v) -> x.prove(v));
        for (int n = 0; n <= 4; n++) {
            ThirteenthBun x = six();
            is("prove(" + n + ")", x.prove(n), n);
            is("many(4)", x.many(4), n);
            for (int k = 0; k < n; k++) {
                is("act of row " + k, x.row(k, 0), k + 1);
                is("worth of row " + k, x.row(k, 1), 11);
                is("called behind row " + k, x.row(k, 2), (1 << k + 1) - 1);
            }
            is("no row " + n, x.row(n, 0), -9);
            is("prove(" + n + ") of 2 nights", two(2).prove(n), Math.min(n, 2));
            is("prove(" + n + "), over", over().prove(n), 0);
        }
        ThirteenthBun x = six();
        x.prove(4);
        is("prove(0) in place of four", x.prove(0), 0);
        is("many(4)", x.many(4), 0);
        is("row(0, 0)", x.row(0, 0), -9);
        is("all else is as it was", x.state(0) + x.state(2) + x.state(5), 0);
    }

    private static void rows() {
        says(39, "Of ROW k: what = 0 ACT, 1 WORTH, 2 those CALLED. -9: there is none such, another what.");
        takesAs(-9, 0, 3, "row(k, 0)", Villages::full, (x, v) -> x.row(v, 0));
        takesAs(-9, 0, 2, "row(3, what)", Villages::full, (x, v) -> x.row(3, v));
        refused(-9, "row(k, 0), none proved", Villages::five, (x, v) -> x.row(v, 0), -1, 0, 1);
        says(40, "It becomes v: what it was. -9 likewise.");
        takesAs(-9, 0, 3, "alterRow(k, 0, 1)", Villages::full, (x, v) -> x.alterRow(v, 0, 1));
        takesAs(-9, 0, 2, "alterRow(3, what, 1)", Villages::full, (x, v) -> x.alterRow(3, v, 1));
        refused(-9, "alterRow(k, 0, 1), none proved", Villages::five, (x, v) -> x.alterRow(v, 0, 1), -1, 0, 1);
        ThirteenthBun x = six();
        x.prove(2);
        refused(-9, "alterRow(2, 0, 1) of two", () -> {
            ThirteenthBun y = six();
            y.prove(2);
            return y;
        }, y -> y.alterRow(2, 0, 1));
        int[] values = {Integer.MIN_VALUE, Integer.MAX_VALUE, -9, -1, 0};
        for (int k = 0; k < 2; k++) {
            for (int what = 0; what < 3; what++) {
                int was = x.row(k, what);
                for (int v : values) {
                    is("alterRow(" + k + ", " + what + ", " + v + ")", x.alterRow(k, what, v), was);
                    is("it is", x.row(k, what), v);
                    was = v;
                }
            }
        }
    }

    private static void judge() {
        says(41, "THE READER takes ROWS as such: 0 all is right; else the first ROW that isn't, and 1 more.");
        asked(0, "judge() without rows", Villages::five, ThirteenthBun::judge);
        asked(0, "judge() of four", Villages::full, ThirteenthBun::judge);
        for (int k = 0; k < 4; k++) {
            for (int what = 0; what < 3; what++) {
                ThirteenthBun x = six();
                x.prove(4);
                x.alterRow(k, what, x.row(k, what) + 1);
                is("judge() with row " + k + ", " + what + " one more", x.judge(), k + 1);
                x.alterRow(3, 1, 99);
                is("judge(): the first that isn't", x.judge(), k + 1);
            }
        }
        says(41, "right is one whose ACT is one, if it isn't OVER, the others as they are then.");
        int[] acts = {7, -1, 63, Integer.MAX_VALUE, Integer.MIN_VALUE};
        for (int act : acts) {
            ThirteenthBun x = six();
            x.prove(1);
            x.alterRow(0, 0, act);
            x.alterRow(0, 1, 0);
            x.alterRow(0, 2, 0);
            is("judge() of an act of " + act, x.judge(), 1);
            x.alterRow(0, 0, 0);
            is("judge() of an act of 0", x.judge(), 0);
            x.alterRow(0, 0, 6);
            x.alterRow(0, 1, 11);
            x.alterRow(0, 2, 32);
            is("judge() of an act of 6", x.judge(), 0);
        }
        for (int end = 1; end <= 5; end++) {
            ThirteenthBun x = six();
            x.prove(4);
            x.ends(end);
            is("judge() of " + end + " nights", x.judge(), end >= 4 ? 0 : end + 1);
        }
        ThirteenthBun x = six();
        x.prove(1);
        x.ends(1);
        x.night();
        is("judge(), over", x.judge(), 1);
    }
}
