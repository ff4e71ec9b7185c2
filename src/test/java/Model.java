import java.util.ArrayList;
import java.util.Arrays;
import java.util.List;
import java.util.regex.Matcher;
import java.util.regex.Pattern;

/**
 * The document told a second time, as slowly and directly as can be: worlds are copied rather than taken back, plans
 * are counted out, texts are read by a table of states, sheets are Java's own arrays with Java's own exceptions.
 */
final class Model {
    static final int BAD = -1, FULL = -2, NONE = -3, STATE = -4;

    static final class House {
        int kind, rank, grief, lane, buns;
        boolean called;

        House copy() {
            House h = new House();
            h.kind = kind;
            h.rank = rank;
            h.grief = grief;
            h.lane = lane;
            h.buns = buns;
            h.called = called;
            return h;
        }
    }

    static final class Rule {
        String kind, deed;
        List<String> condition = new ArrayList<>();
    }

    static final class World {
        List<House> houses = new ArrayList<>();
        int[] lamps = new int[6], dry = {6, 6, 6, 6, 6, 6}, dusk = new int[16];
        int night, end = 12, rain, tray = 26, score, z = 1;
        List<Rule> rules = new ArrayList<>();
        List<int[]> reports = new ArrayList<>();

        World() {
            Arrays.fill(dusk, 4);
        }

        World copy() {
            World w = new World();
            for (House h : houses) {
                w.houses.add(h.copy());
            }
            w.lamps = lamps.clone();
            w.dry = dry.clone();
            w.dusk = dusk.clone();
            w.night = night;
            w.end = end;
            w.rain = rain;
            w.tray = tray;
            w.score = score;
            w.z = z;
            w.rules = new ArrayList<>(rules);
            w.reports = new ArrayList<>(reports);
            return w;
        }

        boolean over() {
            return night >= end;
        }

        int calledSet() {
            int set = 0;
            for (int k = 0; k < houses.size(); k++) {
                if (houses.get(k).called) {
                    set += 1 << k;
                }
            }
            return set;
        }
    }

    static int asks(int kind, int number, int night) {
        switch (kind) {
            case 1: return 13;
            case 2: return 6;
            case 3: return 6 + number;
            case 4: return 24;
            case 5: return night % 2 == 0 ? 15 : 24;
            default: return 12;
        }
    }

    static int draws(int kind, int grief, int rain, int night) {
        switch (kind) {
            case 1: return rain;
            case 2: return grief + rain + grief;
            case 3: return grief + rain + grief + 3;
            case 4: return grief > rain ? grief : rain;
            case 5: return night % 3 == 0 ? 0 : grief > rain ? grief : rain;
            default: return grief + rain;
        }
    }

    static int drawsHere(World w, int k) {
        House h = w.houses.get(k);
        int drawn = draws(h.kind, h.grief, w.rain, w.night) - w.lamps[h.lane];
        return drawn < 0 ? 0 : drawn;
    }

    static boolean served(World w, int k) {
        House h = w.houses.get(k);
        return w.tray >= asks(h.kind, k, w.night) && w.tray >= h.rank;
    }

    static boolean would(World w, int k) {
        return drawsHere(w, k) >= w.dry[w.houses.get(k).lane];
    }

    static int rainAfter(int rain, int dusk) {
        for (int i = 0; i < dusk / 4; i++) {
            int way = dusk % 4;
            if (way == 0 && rain < 9) {
                rain++;
            } else if (way == 1 && rain > 0) {
                rain--;
            } else if (way == 2 && rain != 5) {
                rain += rain < 5 ? 1 : -1;
            }
        }
        return rain;
    }

    /** A NIGHT with an ACT, or with -1 as in THE REST. */
    static int go(World w, int act) {
        w.rain = rainAfter(w.rain, w.dusk[w.night]);
        int k = act - 1;
        if (act == -1) {
            k = -1;
            for (int i = w.houses.size() - 1; i >= 0; i--) {
                if (!w.houses.get(i).called && served(w, i) && would(w, i)) {
                    k = i;
                }
            }
        }
        int worth = 0;
        if (k >= 0) {
            House h = w.houses.get(k);
            String will = will(w, k);
            if (will.equals("send")) {
                w.tray = Math.min(99, w.tray + h.buns);
                h.buns = 0;
            } else if (will.equals("give") && served(w, k)) {
                w.tray -= asks(h.kind, k, w.night);
                h.buns = Math.min(9, h.buns + 1);
                worth = 1;
                if (would(w, k)) {
                    worth = 2 * h.buns;
                    if (!h.called) {
                        worth += 9;
                    }
                    h.called = true;
                    h.buns = 0;
                }
            }
        }
        w.tray = Math.min(99, w.tray + 14 - w.rain);
        w.night++;
        return worth;
    }

    static final List<String> KINDS = List.of("house", "bride", "sad", "trouble", "farm", "lovell");
    static final List<String> DEEDS = List.of("give", "hold", "send");
    static final List<String> FACTS = List.of("night", "grief", "draws", "rain", "number");
    static final List<List<String>> ABOVE = List.of(List.of("house"), List.of("bride", "house"), List.of("sad", "house"),
        List.of("trouble", "sad", "house"), List.of("farm", "house"), List.of("lovell", "farm", "house"));

    static String will(World w, int k) {
        House h = w.houses.get(k);
        int[] facts = {w.night, h.grief, drawsHere(w, k), w.rain, k};
        for (Rule r : w.rules) {
            if (ABOVE.get(h.kind).contains(r.kind) && (r.condition.isEmpty() || holds(r.condition, facts))) {
                return r.deed;
            }
        }
        return "give";
    }

    static int outermost(List<String> c, String word) {
        int open = 0;
        for (int i = c.size() - 1; i >= 0; i--) {
            String s = c.get(i);
            open += s.equals(")") ? 1 : s.equals("(") ? -1 : 0;
            if (open == 0 && s.equals(word)) {
                return i;
            }
        }
        return -1;
    }

    static boolean holds(List<String> c, int[] facts) {
        int or = outermost(c, "or");
        if (or >= 0) {
            return holds(c.subList(0, or), facts) | holds(c.subList(or + 1, c.size()), facts);
        }
        int and = outermost(c, "and");
        if (and >= 0) {
            return holds(c.subList(0, and), facts) & holds(c.subList(and + 1, c.size()), facts);
        }
        if (c.get(0).equals("not")) {
            return !holds(c.subList(1, c.size()), facts);
        }
        if (c.get(0).equals("(")) {
            return holds(c.subList(1, c.size() - 1), facts);
        }
        int a = value(c.get(0), facts);
        int b = value(c.get(2), facts);
        String sign = c.get(1);
        return sign.equals("<") ? a < b : sign.equals("=") ? a == b : a > b;
    }

    static int value(String s, int[] facts) {
        return FACTS.contains(s) ? facts[FACTS.indexOf(s)] : Integer.parseInt(s);
    }

    static final Pattern PARTS = Pattern.compile("[a-z]+|[0-9]+|[^ ]", Pattern.DOTALL);

    /** Reads a text by states; -1 if it is right (rules then hold what it tells), else its FAULT. */
    static int read(String text, List<Rule> rules) {
        Matcher m = PARTS.matcher(text);
        String state = "kind";
        int open = 0;
        Rule r = null;
        while (m.find()) {
            String s = m.group();
            boolean isValue = FACTS.contains(s) || (s.matches("[0-9]+") && s.length() <= 4);
            String next = null;
            if (state.equals("kind") && KINDS.contains(s) && rules.size() < 8) {
                r = new Rule();
                r.kind = s;
                next = "if or do";
            } else if (state.equals("if or do") && s.equals("if")) {
                next = "one";
            } else if ((state.equals("if or do") || (state.equals("behind one") && open == 0)) && DEEDS.contains(s)) {
                r.deed = s;
                next = ";";
            } else if (state.equals("one") && (s.equals("not") || (s.equals("(") && open < 3))) {
                next = "one";
            } else if (state.equals("one") && isValue) {
                next = "sign";
            } else if (state.equals("sign") && (s.equals("<") || s.equals("=") || s.equals(">"))) {
                next = "second";
            } else if (state.equals("second") && isValue) {
                next = "behind one";
            } else if (state.equals("behind one") && (s.equals("and") || s.equals("or"))) {
                next = "one";
            } else if (state.equals("behind one") && s.equals(")") && open > 0) {
                next = "behind one";
            } else if (state.equals(";") && s.equals(";")) {
                rules.add(r);
                next = "kind";
            }
            if (next == null) {
                return m.start();
            }
            if (!state.equals("kind") && !DEEDS.contains(s) && !s.equals(";") && !s.equals("if")) {
                r.condition.add(s);
            }
            open += s.equals("(") ? 1 : s.equals(")") ? -1 : 0;
            state = next;
        }
        return state.equals("kind") ? -1 : text.length();
    }

    // ---- the face, as the object has it

    World w = new World();
    World kept;
    StringBuilder tape = new StringBuilder();
    List<int[]> rows = new ArrayList<>();
    Object[] sheets = new Object[4];
    Object[] shelves = new Object[4];
    List<Integer> bodies = new ArrayList<>();

    boolean no(int k) {
        return k < 0 || k >= w.houses.size();
    }

    static boolean out(int v, int least, int most) {
        return v < least || v > most;
    }

    int house(int kind, int rank, int grief, int lane) {
        if (out(kind, 1, 5) || out(rank, 0, 60) || out(grief, 0, 9) || out(lane, 0, 5)) {
            return BAD;
        }
        if (w.houses.size() == 6) {
            return FULL;
        }
        House h = new House();
        h.kind = kind;
        h.rank = rank;
        h.grief = grief;
        h.lane = lane;
        w.houses.add(h);
        return w.houses.size() - 1;
    }

    int houseOf(int k, int what) {
        if (no(k) || out(what, 0, 9)) {
            return BAD;
        }
        House h = w.houses.get(k);
        return new int[] {h.kind, h.rank, h.grief, h.lane, h.buns, h.called ? 1 : 0, drawsHere(w, k),
            asks(h.kind, k, w.night), DEEDS.indexOf(will(w, k)), served(w, k) ? 1 : 0}[what];
    }

    int change(int k, int what, int v) {
        if (no(k) || out(what, 1, 5) || out(v, 0, new int[] {0, 60, 9, 5, 9, 1}[what])) {
            return BAD;
        }
        int was = houseOf(k, what);
        House h = w.houses.get(k);
        if (what == 1) {
            h.rank = v;
        } else if (what == 2) {
            h.grief = v;
        } else if (what == 3) {
            h.lane = v;
        } else if (what == 4) {
            h.buns = v;
        } else {
            h.called = v == 1;
        }
        return was;
    }

    int remake(int k, int kind) {
        if (no(k) || out(kind, 1, 5)) {
            return BAD;
        }
        int was = w.houses.get(k).kind;
        w.houses.get(k).kind = kind;
        return was;
    }

    int dusk(int night, int v) {
        if (out(night, 0, 15) || out(v, 0, 15)) {
            return BAD;
        }
        int was = w.dusk[night];
        w.dusk[night] = v;
        return was;
    }

    int lane(int g, int what, int v) {
        if (out(g, 0, 5) || out(what, 0, 1) || out(v, 0, what == 0 ? 9 : 14)) {
            return BAD;
        }
        int[] of = what == 0 ? w.lamps : w.dry;
        int was = of[g];
        of[g] = v;
        return was;
    }

    int laneOf(int g, int what) {
        if (out(g, 0, 5) || out(what, 0, 1)) {
            return BAD;
        }
        return (what == 0 ? w.lamps : w.dry)[g];
    }

    int shop(int what, int v) {
        if (out(what, 0, 1) || out(v, 0, what == 0 ? 9 : 99)) {
            return BAD;
        }
        int was = what == 0 ? w.rain : w.tray;
        if (what == 0) {
            w.rain = v;
        } else {
            w.tray = v;
        }
        return was;
    }

    int ends(int v) {
        if (out(v, 1, 16)) {
            return BAD;
        }
        if (v < w.night) {
            return STATE;
        }
        int was = w.end;
        w.end = v;
        return was;
    }

    int anew() {
        int was = w.night;
        w.night = 0;
        w.score = 0;
        w.rain = 0;
        w.tray = 26;
        for (House h : w.houses) {
            h.buns = 0;
            h.called = false;
        }
        return was;
    }

    int state(int what) {
        if (out(what, 0, 8)) {
            return BAD;
        }
        int buns = 0;
        for (int k = 0; k < w.houses.size(); k++) {
            buns += w.houses.get(k).buns > 0 ? 1 << k : 0;
        }
        return new int[] {w.night, w.end, w.score, w.over() ? 1 : 0, buns, w.calledSet(),
            w.night > 15 ? 0 : w.dusk[w.night], w.rain, w.tray}[what];
    }

    int feed(long eight, int n) {
        if (out(n, 1, 8)) {
            return BAD;
        }
        if (tape.length() + n > 200) {
            return FULL;
        }
        for (int i = 0; i < n; i++) {
            tape.append((char) (eight & 255));
            eight >>= 8;
        }
        return tape.length();
    }

    int rules() {
        List<Rule> told = new ArrayList<>();
        int fault = read(tape.toString(), told);
        tape.setLength(0);
        if (fault >= 0) {
            return -100 - fault;
        }
        w.rules = told;
        return told.size();
    }

    int night() {
        if (w.over()) {
            return STATE;
        }
        int worth = go(w, -1);
        w.score += worth;
        return worth;
    }

    /** How it is behind each NIGHT of THE REST; its score starts at 0 here. */
    static List<World> rest(World from) {
        List<World> behind = new ArrayList<>();
        World v = from.copy();
        v.score = 0;
        while (!v.over()) {
            v = v.copy();
            v.score += go(v, -1);
            behind.add(v);
        }
        return behind;
    }

    static int restWorth(World from, int nights) {
        List<World> rest = rest(from);
        int n = Math.min(nights, rest.size());
        return n == 0 ? 0 : rest.get(n - 1).score;
    }

    int on(int n) {
        return out(n, 0, 16) ? BAD : restWorth(w, n);
    }

    int when(int k) {
        if (no(k)) {
            return BAD;
        }
        if (w.houses.get(k).called) {
            return NONE;
        }
        for (World v : rest(w)) {
            if (v.houses.get(k).called) {
                return v.night - 1;
            }
        }
        return NONE;
    }

    int griefFor(int k) {
        if (no(k)) {
            return BAD;
        }
        int best = 0;
        int most = -1;
        for (int v = 9; v >= 0; v--) {
            World u = w.copy();
            u.houses.get(k).grief = v;
            int worth = restWorth(u, 16);
            if (worth >= most) {
                most = worth;
                best = v;
            }
        }
        return best;
    }

    int laneFor(int k) {
        if (no(k)) {
            return BAD;
        }
        int best = 0;
        int most = -1;
        for (int v = 5; v >= 0; v--) {
            World u = w.copy();
            u.houses.get(k).lane = v;
            int worth = restWorth(u, 16);
            if (worth >= most) {
                most = worth;
                best = v;
            }
        }
        return best;
    }

    int full(int v) {
        if (out(v, 0, 99)) {
            return BAD;
        }
        for (World u : rest(w)) {
            if (u.tray >= v) {
                return u.night - 1;
            }
        }
        return NONE;
    }

    int bare(int what) {
        if (out(what, 0, 1)) {
            return BAD;
        }
        int bare = 0;
        World before = w;
        for (World u : rest(w)) {
            bare += u.calledSet() == before.calledSet() ? 1 : 0;
            before = u;
        }
        return what == 0 ? bare : before.tray;
    }

    int kin(int what) {
        int n = w.houses.size();
        if (out(what, -1, n - 1)) {
            return BAD;
        }
        boolean[][] together = new boolean[n][n];
        for (int a = 0; a < n; a++) {
            for (int b = 0; b < n; b++) {
                House ha = w.houses.get(a);
                House hb = w.houses.get(b);
                together[a][b] = !ha.called && !hb.called && (ha.lane == hb.lane || Math.abs(ha.grief - hb.grief) < 2);
            }
        }
        for (int m = 0; m < n; m++) {
            for (int a = 0; a < n; a++) {
                for (int b = 0; b < n; b++) {
                    together[a][b] |= together[a][m] && together[m][b];
                }
            }
        }
        List<Integer> sets = new ArrayList<>();
        for (int a = 0; a < n; a++) {
            int set = 0;
            for (int b = 0; b < n; b++) {
                set += together[a][b] ? 1 << b : 0;
            }
            if (a == what) {
                return set;
            }
            if (set != 0 && !sets.contains(set)) {
                sets.add(set);
            }
        }
        return sets.size();
    }

    private int fewestLanes;
    private int firstHouse;

    int walk(int lane, int what) {
        if (out(lane, 0, 5) || out(what, 0, 1)) {
            return BAD;
        }
        List<Integer> waiting = new ArrayList<>();
        for (int k = 0; k < w.houses.size(); k++) {
            if (!w.houses.get(k).called) {
                waiting.add(k);
            }
        }
        fewestLanes = 1000;
        firstHouse = NONE;
        walkRows(lane, waiting, new ArrayList<>());
        return what == 0 ? fewestLanes : firstHouse;
    }

    private void walkRows(int lane, List<Integer> waiting, List<Integer> row) {
        if (row.size() == waiting.size()) {
            int lanes = 0;
            int at = lane;
            for (int k : row) {
                int to = w.houses.get(k).lane;
                lanes += Math.min((to - at + 6) % 6, (at - to + 6) % 6);
                at = to;
            }
            if (lanes < fewestLanes) {
                fewestLanes = lanes;
                firstHouse = row.isEmpty() ? NONE : row.get(0);
            }
            return;
        }
        for (int k : waiting) {
            if (!row.contains(k)) {
                row.add(k);
                walkRows(lane, waiting, row);
                row.remove(row.size() - 1);
            }
        }
    }

    /** Every PLAN of n in order, each with its worth, those called behind it, and its acts. */
    List<int[]> plans(int n) {
        int nights = Math.max(0, Math.min(n, w.end - w.night));
        int acts = w.houses.size() + 1;
        int count = 1;
        for (int i = 0; i < nights; i++) {
            count *= acts;
        }
        List<int[]> all = new ArrayList<>();
        for (int code = 0; code < count; code++) {
            int[] plan = new int[nights + 2];
            int rest = code;
            for (int i = nights - 1; i >= 0; i--) {
                plan[i + 2] = rest % acts;
                rest /= acts;
            }
            World v = w.copy();
            for (int i = 0; i < nights; i++) {
                plan[0] += go(v, plan[i + 2]);
            }
            plan[1] = v.calledSet();
            all.add(plan);
        }
        return all;
    }

    List<int[]> bestPlans(int n) {
        List<int[]> best = new ArrayList<>();
        for (int[] plan : plans(n)) {
            if (!best.isEmpty() && plan[0] > best.get(0)[0]) {
                best.clear();
            }
            if (best.isEmpty() || plan[0] == best.get(0)[0]) {
                best.add(plan);
            }
        }
        return best;
    }

    int best(int n) {
        return out(n, 0, 4) ? BAD : bestPlans(n).get(0)[0];
    }

    int ith(int n, int i) {
        if (out(n, 0, 4) || out(i, 0, 3)) {
            return BAD;
        }
        int[] first = bestPlans(n).get(0);
        return i + 2 < first.length ? first[i + 2] : NONE;
    }

    int ways(int n) {
        return out(n, 0, 4) ? BAD : bestPlans(n).size();
    }

    int round(int n, int houses) {
        if (out(n, 0, 4) || out(houses, 0, (1 << w.houses.size()) - 1)) {
            return BAD;
        }
        int fewest = 99;
        for (int[] plan : plans(n)) {
            if ((plan[1] & houses) == houses) {
                int acts = 0;
                for (int i = 2; i < plan.length; i++) {
                    acts += plan[i] != 0 ? 1 : 0;
                }
                fewest = Math.min(fewest, acts);
            }
        }
        return fewest == 99 ? NONE : fewest;
    }

    int bars(int n, int houses) {
        if (out(n, 0, 4) || out(houses, 0, (1 << w.houses.size()) - 1)) {
            return BAD;
        }
        List<int[]> plans = plans(n);
        for (int k = 0; k < w.houses.size(); k++) {
            boolean isBar = (houses >> k & 1) == 1;
            for (int[] plan : plans) {
                isBar &= (plan[1] >> k & 1) == 0;
            }
            if (isBar) {
                return k;
            }
        }
        return NONE;
    }

    /** What comes of each first ACT of a game. */
    static int[] outcomes(World from, int left, boolean first) {
        int[] comes = new int[from.houses.size() + 1];
        for (int act = 0; act < comes.length; act++) {
            World v = from.copy();
            comes[act] = go(v, act) + value(v, left - 1, !first);
        }
        return comes;
    }

    static int value(World from, int left, boolean first) {
        if (left == 0 || from.over()) {
            return 0;
        }
        int[] comes = outcomes(from, left, first);
        Arrays.sort(comes);
        return first ? comes[comes.length - 1] : comes[0];
    }

    int game(int n) {
        return out(n, 1, 4) ? BAD : value(w, n, true);
    }

    int play(int n) {
        if (out(n, 1, 4)) {
            return BAD;
        }
        if (w.over()) {
            return NONE;
        }
        int value = value(w, n, true);
        int[] comes = outcomes(w, n, true);
        int act = 0;
        while (comes[act] != value) {
            act++;
        }
        return act;
    }

    int report(int k, int asked, int least, int most) {
        if (out(k, 0, 15) || out(asked, 0, 1)) {
            return BAD;
        }
        int high = asked == 0 ? 99 : 9;
        if (out(least, 0, high) || out(most, 0, high) || most < least) {
            return BAD;
        }
        if (w.reports.size() == 6) {
            return FULL;
        }
        w.reports.add(new int[] {k, asked, least, most});
        return w.reports.size() - 1;
    }

    int forget() {
        int was = w.reports.size();
        w.reports.clear();
        return was;
    }

    List<int[]> fitting(List<int[]> reports) {
        List<int[]> fit = new ArrayList<>();
        for (int story = 0; story < 500; story++) {
            int kind = story / 100 + 1;
            int grief = story / 10 % 10;
            int first = story % 10;
            int[] rains = new int[16];
            int[] trays = new int[16];
            rains[0] = first;
            trays[0] = 26;
            for (int night = 0; night < 15; night++) {
                int rain = rainAfter(rains[night], w.dusk[night]);
                int tray = trays[night];
                if (night % 2 == 0) {
                    int ask = asks(kind, 0, night);
                    if (ask <= tray) {
                        tray -= ask;
                        tray += draws(kind, grief, rain, night) < 6 ? 1 : 0;
                    }
                }
                rains[night + 1] = rain;
                trays[night + 1] = Math.min(99, tray + 14 - rain);
            }
            boolean fits = true;
            for (int[] r : reports) {
                int was = (r[1] == 0 ? trays : rains)[r[0]];
                fits &= was >= r[2] && was <= r[3];
            }
            if (fits) {
                fit.add(new int[] {kind, grief, first});
            }
        }
        return fit;
    }

    int stories(int what) {
        if (out(what, 0, 3)) {
            return BAD;
        }
        List<int[]> fit = fitting(w.reports);
        if (what == 0) {
            return fit.size();
        }
        return fit.isEmpty() ? NONE : fit.get(0)[what - 1];
    }

    int liar() {
        if (!fitting(w.reports).isEmpty()) {
            return NONE;
        }
        for (int i = 0; i < w.reports.size(); i++) {
            List<int[]> others = new ArrayList<>(w.reports);
            others.remove(i);
            if (!fitting(others).isEmpty()) {
                return i;
            }
        }
        return NONE;
    }

    int seed(int v) {
        int was = w.z;
        w.z = v;
        return was;
    }

    static int goLot(World v) {
        v.z = (int) (v.z * 1103515245L + 12345L);
        int act = (int) (((v.z & 0xffffffffL) >> 16) % (v.houses.size() + 1));
        return go(v, act);
    }

    int lot() {
        if (w.over()) {
            return STATE;
        }
        int worth = goLot(w);
        w.score += worth;
        return worth;
    }

    int times(int n, int v) {
        if (out(n, 1, 40) || out(v, 0, 999)) {
            return BAD;
        }
        int z = w.z;
        int hits = 0;
        for (int i = 0; i < n; i++) {
            World u = w.copy();
            u.z = z;
            int worth = 0;
            while (!u.over()) {
                worth += goLot(u);
            }
            z = u.z;
            hits += worth >= v ? 1 : 0;
        }
        return hits;
    }

    int prove(int n) {
        if (out(n, 0, 4)) {
            return BAD;
        }
        int[] first = bestPlans(n).get(0);
        rows.clear();
        World v = w.copy();
        for (int i = 2; i < first.length; i++) {
            int worth = go(v, first[i]);
            rows.add(new int[] {first[i], worth, v.calledSet()});
        }
        return rows.size();
    }

    int row(int k, int what) {
        return out(k, 0, rows.size() - 1) || out(what, 0, 2) ? -9 : rows.get(k)[what];
    }

    int alterRow(int k, int what, int v) {
        int was = row(k, what);
        if (!out(k, 0, rows.size() - 1) && !out(what, 0, 2)) {
            rows.get(k)[what] = v;
        }
        return was;
    }

    int judge() {
        World v = w.copy();
        for (int k = 0; k < rows.size(); k++) {
            int[] r = rows.get(k);
            if (v.over() || out(r[0], 0, v.houses.size()) || go(v, r[0]) != r[1] || v.calledSet() != r[2]) {
                return k + 1;
            }
        }
        return 0;
    }

    // ---- the host: Java itself refuses here

    interface Asked {
        int answer();
    }

    static int hosted(Asked asked) {
        try {
            return asked.answer();
        } catch (NullPointerException e) {
            return -11;
        } catch (ArrayIndexOutOfBoundsException e) {
            return -12;
        } catch (ClassCastException e) {
            return -13;
        } catch (NegativeArraySizeException e) {
            return -14;
        } catch (ArithmeticException e) {
            return -15;
        }
    }

    int sheet(int sheet, int sort, int n) {
        if (out(sheet, 0, 3) || out(sort, -1, 4) || (sort >= 0 && n > 40)) {
            return BAD;
        }
        return hosted(() -> {
            sheets[sheet] = sort == 0 ? new byte[n] : sort == 1 ? new short[n] : sort == 2 ? new int[n]
                : sort == 3 ? new long[n] : sort == 4 ? new boolean[n] : null;
            return 1;
        });
    }

    int write(int sheet, int i, int v) {
        if (out(sheet, 0, 3)) {
            return BAD;
        }
        return hosted(() -> {
            Object s = sheets[sheet];
            if (s instanceof byte[]) {
                ((byte[]) s)[i] = (byte) v;
            } else if (s instanceof short[]) {
                ((short[]) s)[i] = (short) v;
            } else if (s instanceof int[]) {
                ((int[]) s)[i] = v;
            } else if (s instanceof long[]) {
                ((long[]) s)[i] = v;
            } else {
                ((boolean[]) s)[i] = v != 0;
            }
            return 1;
        });
    }

    int item(int sheet, int sort, int i) {
        if (out(sheet, 0, 3) || out(sort, 0, 4)) {
            return BAD;
        }
        return hosted(() -> {
            Object s = sheets[sheet];
            switch (sort) {
                case 0: return ((byte[]) s)[i];
                case 1: return ((short[]) s)[i];
                case 2: return ((int[]) s)[i];
                case 3: return (int) ((long[]) s)[i];
                default: return ((boolean[]) s)[i] ? 1 : 0;
            }
        });
    }

    int goAll(int sheet, int i, int n) {
        if (out(sheet, 0, 3) || out(n, 0, 20)) {
            return BAD;
        }
        return hosted(() -> {
            byte[] acts = (byte[]) sheets[sheet];
            int together = acts.length * 0;
            for (int j = 0; j < n; j++) {
                byte act = acts[i + j];
                if (!out(act, 0, w.houses.size()) && !w.over()) {
                    int worth = go(w, act);
                    w.score += worth;
                    together += worth;
                }
            }
            return together;
        });
    }

    int wouldBe(int sheet, int i, int n) {
        if (out(sheet, 0, 3) || out(n, 0, 20)) {
            return BAD;
        }
        return hosted(() -> {
            byte[] acts = (byte[]) sheets[sheet];
            World v = w.copy();
            int together = acts.length * 0;
            for (int j = 0; j < n; j++) {
                byte act = acts[i + j];
                if (out(act, 0, v.houses.size()) || v.over()) {
                    return STATE;
                }
                together += go(v, act);
            }
            return together;
        });
    }

    /** A shelf holds a HOUSE by its number, an Integer here, or a row itself. */
    int shelf(int shelf, int what, int n) {
        if (out(shelf, 0, 3) || out(what, 0, 2) || (what == 0 && no(n)) || (what == 1 && out(n, 0, 3))) {
            return BAD;
        }
        shelves[shelf] = what == 0 ? (Object) n : what == 1 ? sheets[n] : null;
        return 1;
    }

    Object held(int shelf) {
        Object o = shelves[shelf];
        if (!(o instanceof Integer)) {
            return o;
        }
        int k = (Integer) o;
        return no(k) ? null : thing(k);
    }

    Thing thing(int k) {
        Thing t;
        switch (w.houses.get(k).kind) {
            case 1: t = new Bride(); break;
            case 2: t = new Sad(); break;
            case 3: t = new Trouble(); break;
            case 4: t = new Farm(); break;
            default: t = new Lovell(); break;
        }
        t.n = k;
        t.a = w.houses.get(k).lane;
        t.bodies = bodies;
        return t;
    }

    int taken(int shelf, int as) {
        if (out(shelf, 0, 3) || (out(as, 0, 5) && out(as, 10, 14))) {
            return BAD;
        }
        return hosted(() -> {
            Object o = held(shelf);
            switch (as) {
                case 0: return ((Thing) o).n;
                case 1: return ((Bride) o).n;
                case 2: return ((Sad) o).n;
                case 3: return ((Trouble) o).n;
                case 4: return ((Farm) o).n;
                case 5: return ((Lovell) o).n;
                case 10: return ((byte[]) o).length;
                case 11: return ((short[]) o).length;
                case 12: return ((int[]) o).length;
                case 13: return ((long[]) o).length;
                default: return ((boolean[]) o).length;
            }
        });
    }

    int act(int shelf, int act, int x) {
        bodies.clear();
        if (out(shelf, 0, 3) || out(act, 0, 3) || !(held(shelf) instanceof Thing)) {
            return 0;
        }
        Thing t = (Thing) held(shelf);
        return hosted(() -> act == 0 ? t.knocks(x) : act == 1 ? t.waits(x) : act == 2 ? t.counts(x) : t.sits(x));
    }

    int trace(int i) {
        return out(i, 0, Math.min(30, bodies.size()) - 1) ? NONE : bodies.get(i);
    }

    int many(int what) {
        if (out(what, 0, 6)) {
            return BAD;
        }
        return new int[] {w.houses.size(), w.rules.size(), Integer.bitCount(w.calledSet()), w.reports.size(),
            rows.size(), tape.length(), Math.min(30, bodies.size())}[what];
    }

    int keep() {
        kept = w.copy();
        return 1;
    }

    int again() {
        if (kept == null) {
            return NONE;
        }
        w = kept.copy();
        return w.houses.size();
    }

    static class Thing {
        int n, a;
        List<Integer> bodies;

        int knocks(int x) {
            bodies.add(10);
            return x - 2 * n;
        }

        int waits(int x) {
            bodies.add(11);
            return knocks(x) ^ a;
        }

        int counts(int x) {
            bodies.add(12);
            return x % (2 * n - a);
        }

        int sits(int x) {
            bodies.add(13);
            return waits(x) + 2 * counts(x);
        }
    }

    static class Bride extends Thing {
        @Override
        int knocks(int x) {
            bodies.add(20);
            return super.knocks(x) + 13;
        }
    }

    static class Sad extends Thing {
        @Override
        int waits(int x) {
            bodies.add(30);
            return super.waits(x - a);
        }
    }

    static class Farm extends Thing {
        @Override
        int counts(int x) {
            bodies.add(40);
            return super.counts(x) - 1;
        }
    }

    static class Trouble extends Sad {
        @Override
        int knocks(int x) {
            bodies.add(50);
            return super.knocks(x) * 2;
        }

        @Override
        int sits(int x) {
            bodies.add(51);
            return super.sits(x) - waits(n);
        }
    }

    static class Lovell extends Farm {
        @Override
        int waits(int x) {
            bodies.add(60);
            return super.waits(x) ^ 12;
        }

        @Override
        int counts(int x) {
            bodies.add(61);
            return super.counts(x) + knocks(n);
        }
    }
}
