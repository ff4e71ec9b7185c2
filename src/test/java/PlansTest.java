/** Promises 24 to 30 and 38 to 41: plans, the game, rows and who reads them. */
public final class PlansTest {
    public static void main(String[] args) {
        still();
        over();
        byCounting();
        roundAndBars();
        game();
        rows();
        judge();
        Check.end();
    }

    private static void due(String call, long got, long want) {
        Check.due(call, got, want);
    }

    /** No rain: a sad HOUSE that is called on at once, and a bride at which nobody would call. */
    private static ThirteenthBun two() {
        ThirteenthBun x = new ThirteenthBun();
        for (int night = 0; night < 16; night++) {
            x.dusk(night, 3);
        }
        x.house(2, 0, 9, 0);
        x.house(1, 0, 9, 1);
        return x;
    }

    private static void still() {
        ThirteenthBun x = two();
        due("24 none", x.best(0), 0);
        due("26 one plan of none", x.ways(0), 1);
        due("25 none", x.ith(0, 0), ThirteenthBun.NONE);
        due("24 one", x.best(1), 11);
        due("26 one", x.ways(1), 1);
        due("25 one", x.ith(1, 0), 1);
        due("25 it has not so many", x.ith(1, 1), ThirteenthBun.NONE);
        // 11, then 2 more for each that calls again.
        due("24 four", x.best(4), 17);
        due("26 four", x.ways(4), 1);
        for (int i = 0; i < 4; i++) {
            due("25 four", x.ith(4, i), 1);
        }
        x.lane(0, 1, 14);
        x.change(0, 2, 0);
        // A bun a NIGHT from either one: TRAY 26 is enough for a bride in each.
        due("24 buns", x.best(3), 3);
        due("26 buns", x.ways(3), 8);
        due("25 the lesser act first", x.ith(3, 0), 1);
        due("25 the lesser act first", x.ith(3, 2), 1);
        due("24 bad", x.best(-1), ThirteenthBun.BAD);
        due("24 bad", x.best(5), ThirteenthBun.BAD);
        due("26 bad", x.ways(-1), ThirteenthBun.BAD);
        due("26 bad", x.ways(5), ThirteenthBun.BAD);
        due("25 bad", x.ith(5, 0), ThirteenthBun.BAD);
        due("25 bad", x.ith(-1, 0), ThirteenthBun.BAD);
        due("25 bad ahead of none", x.ith(0, 4), ThirteenthBun.BAD);
        due("25 bad", x.ith(4, -1), ThirteenthBun.BAD);
        due("25 the lesser act where they are unlike first", x.shop(1, 13), 26);
        due("24 only one bun at first", x.best(2), 2);
        due("26 1 or 2 first", x.ways(2), 4);
        due("25 first", x.ith(2, 0), 1);
    }

    private static void over() {
        ThirteenthBun x = two();
        x.ends(2);
        due("24 fewer nights", x.best(4), 13);
        due("26 fewer nights", x.ways(4), 1);
        due("25 fewer nights", x.ith(4, 2), ThirteenthBun.NONE);
        due("38 fewer nights", x.prove(4), 2);
        x.night();
        due("24 one night", x.best(4), 2);
        x.night();
        due("24 over", x.best(4), 0);
        due("26 over", x.ways(4), 1);
        due("25 over", x.ith(4, 0), ThirteenthBun.NONE);
        due("27 called already", x.round(4, 1), 0);
        due("27 over", x.round(4, 2), ThirteenthBun.NONE);
        due("28 called already", x.bars(4, 1), ThirteenthBun.NONE);
        due("28 over", x.bars(4, 3), 1);
        due("29 over", x.game(4), 0);
        due("30 over", x.play(4), ThirteenthBun.NONE);
        due("30 bad ahead of none", x.play(0), ThirteenthBun.BAD);
        due("38 over", x.prove(4), 0);
        due("41 no rows", x.judge(), 0);
    }

    private static ThirteenthBun mixed() {
        ThirteenthBun x = new ThirteenthBun();
        x.lane(0, 0, 1);
        x.lane(1, 1, 4);
        x.lane(2, 1, 3);
        x.house(1, 3, 8, 0);
        x.house(2, 6, 9, 1);
        x.house(4, 30, 5, 2);
        x.dusk(0, 12);
        x.dusk(1, 12);
        Check.tell(x, "sad if night = 1 hold; farm if rain > 8 send;");
        return x;
    }

    /** All PLANS of n by wouldBe(), each written on a SHEET: WORTH of the best, how many, the first. */
    private static void byCounting() {
        for (int n = 0; n <= 4; n++) {
            int most = -1;
            int ways = 0;
            int first = 0;
            int count = 1;
            for (int i = 0; i < n; i++) {
                count *= 4;
            }
            for (int code = 0; code < count; code++) {
                ThirteenthBun planned = mixed();
                planned.sheet(0, 0, 4);
                for (int i = 0; i < n; i++) {
                    planned.write(0, i, code >> 2 * (n - 1 - i) & 3);
                }
                int worth = planned.wouldBe(0, 0, n);
                if (worth > most) {
                    most = worth;
                    ways = 0;
                    first = code;
                }
                ways += worth == most ? 1 : 0;
            }
            ThirteenthBun x = mixed();
            due("24 best of " + n, x.best(n), most);
            due("26 ways of " + n, x.ways(n), ways);
            for (int i = 0; i < n; i++) {
                due("25 act " + i + " of " + n, x.ith(n, i), first >> 2 * (n - 1 - i) & 3);
            }
        }
    }

    private static void roundAndBars() {
        ThirteenthBun x = mixed();
        due("27 none", x.round(0, 0), 0);
        due("27 none", x.round(4, 0), 0);
        due("27 the sad one", x.round(1, 2), 1);
        // Rain is 3, 6, 7, 8: the bride needs 7, as there is a lamp.
        due("27 the bride in two", x.round(2, 1), ThirteenthBun.NONE);
        due("27 the bride in three", x.round(3, 1), 1);
        due("27 the farm in one", x.round(1, 4), ThirteenthBun.NONE);
        due("27 the farm in two", x.round(2, 4), 1);
        due("27 all, in the one row that there is", x.round(4, 7), 3);
        due("27 all in two", x.round(2, 7), ThirteenthBun.NONE);
        due("27 the sad and the farm", x.round(2, 6), 2);
        due("27 bad set", x.round(4, 8), ThirteenthBun.BAD);
        due("27 bad set", x.round(4, -1), ThirteenthBun.BAD);
        due("27 bad", x.round(5, 0), ThirteenthBun.BAD);
        due("27 bad", x.round(-1, 0), ThirteenthBun.BAD);
        due("28 none are told", x.bars(4, 0), ThirteenthBun.NONE);
        due("28 of none", x.bars(0, 6), 1);
        due("28 each by itself", x.bars(4, 7), ThirteenthBun.NONE);
        due("28 the bride in two", x.bars(2, 7), 0);
        due("28 not told", x.bars(2, 6), ThirteenthBun.NONE);
        due("28 the farm in one", x.bars(1, 6), 2);
        due("28 bad set", x.bars(4, 8), ThirteenthBun.BAD);
        due("28 bad set", x.bars(4, -1), ThirteenthBun.BAD);
        due("28 bad", x.bars(5, 0), ThirteenthBun.BAD);
        due("28 bad", x.bars(-1, 0), ThirteenthBun.BAD);
        ThirteenthBun y = two();
        due("27 the fewest, in more nights", y.round(4, 1), 1);
        due("27 nobody would call", y.round(4, 3), ThirteenthBun.NONE);
        due("28 nobody would call", y.bars(4, 3), 1);
        y.change(1, 5, 1);
        due("27 called already", y.round(4, 3), 1);
        due("28 called already", y.bars(4, 3), ThirteenthBun.NONE);
    }

    private static void game() {
        ThirteenthBun x = two();
        due("29 bad", x.game(0), ThirteenthBun.BAD);
        due("29 bad", x.game(5), ThirteenthBun.BAD);
        due("30 bad", x.play(0), ThirteenthBun.BAD);
        due("30 bad", x.play(5), ThirteenthBun.BAD);
        due("29 one", x.game(1), 11);
        due("30 one", x.play(1), 1);
        // The other one tells none.
        due("29 two", x.game(2), 11);
        due("29 three", x.game(3), 13);
        due("29 four", x.game(4), 13);
        due("30 four", x.play(4), 1);
        x.ends(2);
        due("29 till it is over", x.game(4), 11);
        ThirteenthBun y = new ThirteenthBun();
        for (int night = 0; night < 4; night++) {
            y.dusk(night, 3);
        }
        y.house(4, 40, 9, 0);
        y.house(2, 0, 0, 1);
        due("29 one", y.game(1), 1);
        due("30 one", y.play(1), 2);
        due("29 three: the sad one, none, the farm", y.game(3), 12);
        due("30 three", y.play(3), 2);
        y.shop(1, 5);
        due("29 nobody is served", y.game(1), 0);
        due("30 the least act", y.play(1), 0);
        byOutcomes(mixed());
        byOutcomes(two());
    }

    /** The GAME of 4 by wouldBe() of all its ends. */
    private static void byOutcomes(ThirteenthBun x) {
        x.sheet(0, 0, 4);
        int acts = x.many(0) + 1;
        int n = 3;
        int value = -1;
        int opening = -1;
        for (int a = 0; a < acts; a++) {
            int least = 9999;
            for (int b = 0; b < acts; b++) {
                int most = -1;
                for (int c = 0; c < acts; c++) {
                    x.write(0, 0, a);
                    x.write(0, 1, b);
                    x.write(0, 2, c);
                    most = Math.max(most, x.wouldBe(0, 0, n));
                }
                least = Math.min(least, most);
            }
            if (least > value) {
                value = least;
                opening = a;
            }
        }
        due("29 by its ends", x.game(n), value);
        due("30 by its ends", x.play(n), opening);
    }

    private static void rows() {
        ThirteenthBun x = mixed();
        due("39 none", x.row(0, 0), -9);
        due("40 none", x.alterRow(0, 0, 1), -9);
        due("38 bad", x.prove(5), ThirteenthBun.BAD);
        due("38 bad", x.prove(-1), ThirteenthBun.BAD);
        due("38 none", x.many(4), 0);
        due("38 how many", x.prove(3), 3);
        due("38 how many", x.many(4), 3);
        int together = 0;
        for (int k = 0; k < 3; k++) {
            due("39 act", x.row(k, 0), x.ith(3, k));
            together += x.row(k, 1);
        }
        due("39 worths together", together, x.best(3));
        due("38 bad ones leave the rows", x.prove(9), ThirteenthBun.BAD);
        due("38 bad ones leave the rows", x.many(4), 3);
        due("39 such a row", x.row(3, 0), -9);
        due("39 such a row", x.row(-1, 0), -9);
        due("39 such a what", x.row(0, 3), -9);
        due("39 such a what", x.row(0, -1), -9);
        due("40 such a row", x.alterRow(3, 0, 1), -9);
        due("40 such a row", x.alterRow(-1, 0, 1), -9);
        due("40 such a what", x.alterRow(0, 3, 1), -9);
        due("40 such a what", x.alterRow(0, -1, 1), -9);
        int was = x.row(1, 2);
        due("40 what it was", x.alterRow(1, 2, -70), was);
        due("40 altered", x.row(1, 2), -70);
        due("38 of none", x.prove(0), 0);
        due("38 of none", x.row(0, 0), -9);
        ThirteenthBun y = two();
        y.prove(2);
        int[][] rows = {{1, 11, 1}, {1, 2, 1}};
        for (int k = 0; k < 2; k++) {
            for (int what = 0; what < 3; what++) {
                due("39 row " + k + ", " + what, y.row(k, what), rows[k][what]);
            }
        }
        due("38 changes nothing", y.state(0), 0);
        due("38 changes nothing", y.state(5), 0);
    }

    private static void judge() {
        ThirteenthBun x = two();
        due("41 no rows", x.judge(), 0);
        x.prove(3);
        due("41 all is right", x.judge(), 0);
        due("41 changes nothing", x.state(0), 0);
        for (int k = 0; k < 3; k++) {
            for (int what = 1; what < 3; what++) {
                int was = x.alterRow(k, what, 40);
                due("41 altered", x.judge(), k + 1);
                x.alterRow(k, what, was);
                due("41 altered back", x.judge(), 0);
            }
        }
        int[] noActs = {-1, 3, 99, Integer.MIN_VALUE, Integer.MAX_VALUE};
        for (int act : noActs) {
            x.alterRow(1, 0, act);
            due("41 no act", x.judge(), 2);
        }
        x.alterRow(2, 1, 40);
        due("41 the first that isn't", x.judge(), 2);
        // Another PLAN, told as it is, is right as well.
        x.alterRow(1, 0, 2);
        x.alterRow(1, 1, 1);
        x.alterRow(2, 1, 2);
        due("41 not the best, but so", x.judge(), 0);
        x.night();
        due("41 from how it is now", x.judge(), 1);
        x.anew();
        due("41 from how it is now", x.judge(), 0);
        x.ends(2);
        due("41 over ahead of the third", x.judge(), 3);
    }
}
