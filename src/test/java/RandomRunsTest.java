import java.util.Random;

/** Runs of 512 random calls, each answered by the program and by the Model, which must agree. */
public final class RandomRunsTest {
    private static final int RUNS = 400;
    private static final int MOST_CALLS = 512;
    private static final String[] NAMES = {"house", "houseOf", "change", "remake", "dusk", "lane", "laneOf", "shop",
        "ends", "anew", "state", "feed", "rules", "night", "on", "when", "griefFor", "laneFor", "full", "bare", "kin",
        "walk", "best", "ith", "ways", "round", "bars", "game", "play", "report", "forget", "stories", "liar", "seed",
        "lot", "times", "prove", "row", "alterRow", "judge", "sheet", "write", "item", "goAll", "wouldBe", "shelf",
        "taken", "act", "trace", "many", "keep", "again"};
    private static final int[] ASKED = new int[NAMES.length];

    private final Random chance;
    private final ThirteenthBun x = new ThirteenthBun();
    private final Model m = new Model();
    private final StringBuilder told = new StringBuilder();
    private String pending = "";
    private int calls;

    private RandomRunsTest(long seed) {
        chance = new Random(seed);
    }

    public static void main(String[] args) {
        for (int run = 0; run < RUNS; run++) {
            new RandomRunsTest(run).go(run);
        }
        for (int i = 0; i < NAMES.length; i++) {
            Check.due("was " + NAMES[i] + " called 50 times or more? that", ASKED[i] >= 50 ? 1 : 0, 1);
        }
        Check.end();
    }

    private void go(int run) {
        while (calls < MOST_CALLS) {
            int call = calls;
            calls++;
            int which = call < 8 && chance.nextInt(3) > 0 ? 0 : chance.nextInt(NAMES.length);
            if (!pending.isEmpty() && chance.nextInt(3) > 0) {
                which = 11;
            }
            boolean isDear = which >= 22 && which <= 28 || which == 36 || which >= 31 && which <= 32;
            if (isDear && chance.nextInt(6) > 0) {
                which = 13;
            }
            String before = told.toString();
            told.setLength(0);
            long[] both = both(which);
            ASKED[which]++;
            Check.due("run " + run + " call " + call + " (behind" + before + "): " + told, both[0], both[1]);
            if (both[0] != both[1]) {
                return;
            }
        }
    }

    /** A number from least to most, seldom one just beyond or far off. */
    private int some(int least, int most) {
        int v = least + chance.nextInt(most - least + 1);
        if (chance.nextInt(40) == 0) {
            int[] odd = {least - 1, most + 1, Integer.MIN_VALUE, Integer.MAX_VALUE, -1, -3};
            v = odd[chance.nextInt(odd.length)];
        }
        told.append(' ').append(v);
        return v;
    }

    private int k() {
        return some(0, Math.max(0, m.w.houses.size() - 1));
    }

    private int houses() {
        return some(0, (1 << m.w.houses.size()) - 1);
    }

    private int any() {
        int v = chance.nextBoolean() ? chance.nextInt() : chance.nextInt(21) - 10;
        told.append(' ').append(v);
        return v;
    }

    private long[] both(int which) {
        told.append(' ').append(NAMES[which]);
        if (which < 13) {
            return bothOfVillage(which);
        }
        if (which < 29) {
            return bothOfNights(which);
        }
        return which < 40 ? bothOfLots(which) : bothOfHost(which);
    }

    private long[] pair(long a, long b) {
        return new long[] {a, b};
    }

    private long[] bothOfVillage(int which) {
        int a;
        int b;
        int c;
        int d;
        switch (which) {
            case 0:
                a = some(1, 5);
                b = some(0, chance.nextBoolean() ? 20 : 60);
                c = some(0, 9);
                d = some(0, 5);
                return pair(x.house(a, b, c, d), m.house(a, b, c, d));
            case 1:
                a = k();
                b = some(0, 9);
                return pair(x.houseOf(a, b), m.houseOf(a, b));
            case 2:
                a = k();
                b = some(1, 5);
                c = b >= 1 && b <= 5 ? some(0, new int[] {0, 60, 9, 5, 9, 1}[b]) : some(0, 5);
                return pair(x.change(a, b, c), m.change(a, b, c));
            case 3:
                a = k();
                b = some(1, 5);
                return pair(x.remake(a, b), m.remake(a, b));
            case 4:
                a = some(0, 15);
                b = some(0, 15);
                return pair(x.dusk(a, b), m.dusk(a, b));
            case 5:
                a = some(0, 5);
                b = some(0, 1);
                c = some(0, b == 0 ? 4 : 14);
                return pair(x.lane(a, b, c), m.lane(a, b, c));
            case 6:
                a = some(0, 5);
                b = some(0, 1);
                return pair(x.laneOf(a, b), m.laneOf(a, b));
            case 7:
                a = some(0, 1);
                b = some(0, a == 0 ? 9 : 99);
                return pair(x.shop(a, b), m.shop(a, b));
            case 8:
                a = some(chance.nextBoolean() ? 10 : 1, 16);
                return pair(x.ends(a), m.ends(a));
            case 9:
                return pair(x.anew(), m.anew());
            case 10:
                a = some(0, 8);
                return pair(x.state(a), m.state(a));
            case 11:
                return feed();
            default:
                return pair(x.rules(), m.rules());
        }
    }

    /** Feeds a piece of a text, which is told on by and by. */
    private long[] feed() {
        if (pending.isEmpty()) {
            pending = new Texts(chance).text();
        }
        int n = some(1, 8);
        if (n < 1 || n > 8) {
            return pair(x.feed(0, n), m.feed(0, n));
        }
        n = Math.min(n, pending.length());
        long eight = chance.nextLong();
        for (int i = 0; i < n; i++) {
            eight &= ~(255L << 8 * i);
            eight |= (long) pending.charAt(i) << 8 * i;
        }
        told.append(" '").append(pending, 0, n).append("'");
        pending = pending.substring(n);
        long[] both = pair(x.feed(eight, n), m.feed(eight, n));
        if (pending.isEmpty() && both[0] == both[1] && calls < MOST_CALLS) {
            calls++;
            told.append(", rules");
            both = pair(x.rules(), m.rules());
        }
        return both;
    }

    private long[] bothOfNights(int which) {
        int a;
        int b;
        switch (which) {
            case 13:
                return pair(x.night(), m.night());
            case 14:
                a = some(0, 16);
                return pair(x.on(a), m.on(a));
            case 15:
                a = k();
                return pair(x.when(a), m.when(a));
            case 16:
                a = k();
                return pair(x.griefFor(a), m.griefFor(a));
            case 17:
                a = k();
                return pair(x.laneFor(a), m.laneFor(a));
            case 18:
                a = some(0, 99);
                return pair(x.full(a), m.full(a));
            case 19:
                a = some(0, 1);
                return pair(x.bare(a), m.bare(a));
            case 20:
                a = some(-1, 5);
                return pair(x.kin(a), m.kin(a));
            case 21:
                a = some(0, 5);
                b = some(0, 1);
                return pair(x.walk(a, b), m.walk(a, b));
            case 22:
                a = some(0, 4);
                return pair(x.best(a), m.best(a));
            case 23:
                a = some(0, 4);
                b = some(0, 3);
                return pair(x.ith(a, b), m.ith(a, b));
            case 24:
                a = some(0, 4);
                return pair(x.ways(a), m.ways(a));
            case 25:
                a = some(0, 4);
                b = houses();
                return pair(x.round(a, b), m.round(a, b));
            case 26:
                a = some(0, 4);
                b = houses();
                return pair(x.bars(a, b), m.bars(a, b));
            case 27:
                a = some(1, 4);
                return pair(x.game(a), m.game(a));
            default:
                a = some(1, 4);
                return pair(x.play(a), m.play(a));
        }
    }

    private long[] bothOfLots(int which) {
        int a;
        int b;
        int c;
        int d;
        switch (which) {
            case 29:
                a = some(0, 15);
                b = some(0, 1);
                c = some(0, b == 0 ? 60 : 6);
                d = some(b == 0 ? 20 : 2, b == 0 ? 99 : 9);
                return pair(x.report(a, b, c, d), m.report(a, b, c, d));
            case 30:
                return pair(x.forget(), m.forget());
            case 31:
                a = some(0, 3);
                return pair(x.stories(a), m.stories(a));
            case 32:
                return pair(x.liar(), m.liar());
            case 33:
                a = any();
                return pair(x.seed(a), m.seed(a));
            case 34:
                return pair(x.lot(), m.lot());
            case 35:
                a = some(1, 40);
                b = some(0, chance.nextInt(4) == 0 ? 999 : 60);
                return pair(x.times(a, b), m.times(a, b));
            case 36:
                a = some(0, 4);
                return pair(x.prove(a), m.prove(a));
            case 37:
                a = some(0, 3);
                b = some(0, 2);
                return pair(x.row(a, b), m.row(a, b));
            case 38:
                a = some(0, 3);
                b = some(0, 2);
                c = chance.nextBoolean() ? m.row(a, b) : any();
                told.append(' ').append(c);
                return pair(x.alterRow(a, b, c), m.alterRow(a, b, c));
            default:
                return pair(x.judge(), m.judge());
        }
    }

    private long[] bothOfHost(int which) {
        int a;
        int b;
        int c;
        switch (which) {
            case 40:
                a = some(0, 3);
                b = some(-1, 4);
                b = chance.nextBoolean() ? 0 : b;
                c = some(-1, 41);
                told.append(" sort ").append(b);
                return pair(x.sheet(a, b, c), m.sheet(a, b, c));
            case 41:
                a = some(0, 3);
                b = some(0, chance.nextBoolean() ? 5 : 40);
                c = chance.nextBoolean() ? some(0, 6) : any();
                return pair(x.write(a, b, c), m.write(a, b, c));
            case 42:
                a = some(0, 3);
                b = some(0, 4);
                c = some(0, chance.nextBoolean() ? 5 : 40);
                return pair(x.item(a, b, c), m.item(a, b, c));
            case 43:
                a = some(0, 3);
                b = some(0, 10);
                c = some(0, chance.nextBoolean() ? 3 : 20);
                return pair(x.goAll(a, b, c), m.goAll(a, b, c));
            case 44:
                a = some(0, 3);
                b = some(0, 10);
                c = some(0, chance.nextBoolean() ? 3 : 20);
                return pair(x.wouldBe(a, b, c), m.wouldBe(a, b, c));
            case 45:
                a = some(0, 3);
                b = chance.nextBoolean() ? 0 : some(0, 2);
                c = some(0, 5);
                told.append(" what ").append(b);
                return pair(x.shelf(a, b, c), m.shelf(a, b, c));
            case 46:
                a = some(0, 3);
                b = chance.nextBoolean() ? some(0, 5) : some(10, 14);
                return pair(x.taken(a, b), m.taken(a, b));
            case 47:
                a = some(0, 3);
                b = some(0, 3);
                c = any();
                return pair(x.act(a, b, c), m.act(a, b, c));
            case 48:
                a = some(0, 12);
                return pair(x.trace(a), m.trace(a));
            case 49:
                a = some(0, 6);
                return pair(x.many(a), m.many(a));
            case 50:
                return pair(x.keep(), m.keep());
            default:
                return pair(x.again(), m.again());
        }
    }
}
