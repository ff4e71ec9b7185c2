import java.util.Arrays;

/** A village of houses that each keep a bun for whoever is not at the table, and who calls for it when. */
public final class ThirteenthBun {
    public static final int BAD = -1, FULL = -2, NONE = -3, STATE = -4;

    private static final int NO_ROW = -9, NOTHING = -11, OUTSIDE = -12, OTHER_SORT = -13, BELOW_ZERO = -14;
    private static final int PARTED = -15;

    private static final int HOUSES = 6, LANES = 6, NIGHTS = 16, BY_REST = -1;
    private static final int ANY_HOUSE = 0, BRIDE = 1, SAD = 2, TROUBLE = 3, FARM = 4, LOVELL = 5, HOUSE_ASKS = 12;
    private static final int MOST_RANK = 60, MOST_GRIEF = 9, MOST_BUNS = 9, MOST_RAIN = 9, MOST_TRAY = 99;
    private static final int MOST_LAMPS = 9, MOST_DRY = 14, MOST_DUSK = 15, MOST_WORTH = 999, MOST_TIMES = 40;
    private static final int FIRST_TRAY = 26;

    // What of a HOUSE is asked or changed.
    private static final int KIND = 0, RANK = 1, GRIEF = 2, LANE = 3, BUNS = 4, CALLED = 5;
    private static final int DRAWS = 6, ASKS = 7, WILL = 8, SERVED = 9;

    // What a RULE tells; 1 is hold, which does nothing.
    private static final int GIVE = 0, SEND = 2;
    private static final int MOST_RULES = 8, MOST_BYTES = 200, MOST_OPEN = 3, FACTS = 5, FAULTS = -100;
    private static final int MOST_REPORTS = 6, MOST_ACTS = 4, MOST_BODIES = 30;
    private static final int ROW_PARTS = 3;

    private static final int SHEETS = 4, SORTS = 5, MOST_ITEMS = 40, MOST_GONE = 20, MISSING = -1;
    private static final int BYTES = 0, SHORTS = 1, BOOLEANS = 4;
    private static final int SHELVES = 4, ON_HOUSE = 0, ON_ROW = 1, ON_NOTHING = 2, AS_ROW = 10;

    private final House[] kinds = {new House(), new Bride(), new Sad(), new Trouble(), new Farm(), new Lovell()};
    private final Village now = new Village();
    // What is asked must change nothing, so nights that are only asked about go by here.
    private final Village trial = new Village();
    private final Village kept = new Village();
    private boolean isKept;

    private final RuleText tape = new RuleText();
    private final Plans plans = new Plans();
    private final int[] rows = new int[MOST_ACTS * ROW_PARTS];
    private int rowCount;

    private final long[][] items = new long[SHEETS][MOST_ITEMS];
    private final int[] sorts = {MISSING, MISSING, MISSING, MISSING};
    private final int[] sizes = new int[SHEETS];
    // A SHELF holds a row as it was when it came there: of a row only its sort and size are ever asked.
    private final int[] shelfHolds = {ON_NOTHING, ON_NOTHING, ON_NOTHING, ON_NOTHING};
    private final int[] shelfNumber = new int[SHELVES];
    private final int[] shelfSort = new int[SHELVES];
    private House acted;

    public ThirteenthBun() {
    }

    // ---- the village, houses

    public int house(int kind, int rank, int grief, int lane) {
        if (!isKind(kind) || !isFrom0To(rank, MOST_RANK) || !isFrom0To(grief, MOST_GRIEF)
                || !isFrom0To(lane, LANES - 1)) {
            return BAD;
        }
        if (now.houses >= HOUSES) {
            return FULL;
        }
        return now.add(kind, rank, grief, lane);
    }

    public int houseOf(int k, int what) {
        if (!now.has(k)) {
            return BAD;
        }
        switch (what) {
            case DRAWS: return now.drawn(k);
            case ASKS: return now.asked(k);
            case WILL: return now.will(k);
            case SERVED: return now.isServed(k) ? 1 : 0;
            default: return what == KIND || mostOf(what) >= 0 ? now.get(k, what) : BAD;
        }
    }

    public int change(int k, int what, int v) {
        if (!now.has(k) || !isFrom0To(v, mostOf(what))) {
            return BAD;
        }
        int was = now.get(k, what);
        now.put(k, what, v);
        return was;
    }

    public int remake(int k, int kind) {
        if (!now.has(k) || !isKind(kind)) {
            return BAD;
        }
        int was = now.kind[k];
        now.kind[k] = kind;
        return was;
    }

    public int dusk(int night, int v) {
        if (!isFrom0To(night, NIGHTS - 1) || !isFrom0To(v, MOST_DUSK)) {
            return BAD;
        }
        int was = now.dusk[night];
        now.dusk[night] = v;
        return was;
    }

    public int lane(int g, int what, int v) {
        int was = laneOf(g, what);
        if (was == BAD || !isFrom0To(v, what == 0 ? MOST_LAMPS : MOST_DRY)) {
            return BAD;
        }
        if (what == 0) {
            now.lamps[g] = v;
        } else {
            now.dry[g] = v;
        }
        return was;
    }

    public int laneOf(int g, int what) {
        if (!isFrom0To(g, LANES - 1) || !isFrom0To(what, 1)) {
            return BAD;
        }
        return what == 0 ? now.lamps[g] : now.dry[g];
    }

    public int shop(int what, int v) {
        if (!isFrom0To(what, 1) || !isFrom0To(v, what == 0 ? MOST_RAIN : MOST_TRAY)) {
            return BAD;
        }
        int was = what == 0 ? now.rain : now.tray;
        if (what == 0) {
            now.rain = v;
        } else {
            now.tray = v;
        }
        return was;
    }

    public int ends(int v) {
        if (v < 1 || v > NIGHTS) {
            return BAD;
        }
        if (v < now.night) {
            return STATE;
        }
        int was = now.end;
        now.end = v;
        return was;
    }

    public int anew() {
        int was = now.night;
        now.startAnew();
        return was;
    }

    public int state(int what) {
        switch (what) {
            case 0: return now.night;
            case 1: return now.end;
            case 2: return now.score;
            case 3: return now.isOver() ? 1 : 0;
            case 4: return now.withBuns();
            case 5: return now.called;
            case 6: return now.duskNow();
            case 7: return now.rain;
            case 8: return now.tray;
            default: return BAD;
        }
    }

    // ---- the rules

    public int feed(long eight, int n) {
        if (n < 1 || n > 8) {
            return BAD;
        }
        return tape.takes(eight, n) ? tape.count : FULL;
    }

    public int rules() {
        return tape.tell(now.rules);
    }

    // ---- nights

    public int night() {
        if (now.isOver()) {
            return STATE;
        }
        int worth = now.goBy(BY_REST);
        now.score += worth;
        return worth;
    }

    public int on(int n) {
        if (!isFrom0To(n, NIGHTS)) {
            return BAD;
        }
        return freshTrial().goRest(n);
    }

    public int when(int k) {
        if (!now.has(k)) {
            return BAD;
        }
        if (now.isCalled(k)) {
            return NONE;
        }
        Village rest = freshTrial();
        for (int i = 0; i < NIGHTS && !rest.isOver(); i++) {
            rest.goBy(BY_REST);
            if (rest.isCalled(k)) {
                return rest.night - 1;
            }
        }
        return NONE;
    }

    public int griefFor(int k) {
        return now.has(k) ? worthMost(k, GRIEF) : BAD;
    }

    public int laneFor(int k) {
        return now.has(k) ? worthMost(k, LANE) : BAD;
    }

    private int worthMost(int k, int what) {
        int most = -1;
        int first = 0;
        for (int v = 0; v <= mostOf(what); v++) {
            Village rest = freshTrial();
            rest.put(k, what, v);
            int worth = rest.goRest(NIGHTS);
            if (worth > most) {
                most = worth;
                first = v;
            }
        }
        return first;
    }

    // ---- full trays, bare steps, kin, walks

    public int full(int v) {
        if (!isFrom0To(v, MOST_TRAY)) {
            return BAD;
        }
        Village rest = freshTrial();
        for (int i = 0; i < NIGHTS && !rest.isOver(); i++) {
            rest.goBy(BY_REST);
            if (rest.tray >= v) {
                return rest.night - 1;
            }
        }
        return NONE;
    }

    public int bare(int what) {
        if (!isFrom0To(what, 1)) {
            return BAD;
        }
        Village rest = freshTrial();
        int bareNights = 0;
        for (int i = 0; i < NIGHTS && !rest.isOver(); i++) {
            int called = rest.called;
            rest.goBy(BY_REST);
            bareNights += rest.called == called ? 1 : 0;
        }
        return what == 0 ? bareNights : rest.tray;
    }

    public int kin(int what) {
        if (what == -1) {
            return countKin();
        }
        if (!now.has(what)) {
            return BAD;
        }
        return now.isCalled(what) ? 0 : now.kinOf(what);
    }

    private int countKin() {
        int seen = now.called;
        int count = 0;
        for (int k = 0; k < now.houses; k++) {
            if ((seen >> k & 1) == 0) {
                seen |= now.kinOf(k);
                count++;
            }
        }
        return count;
    }

    public int walk(int lane, int what) {
        if (!isFrom0To(lane, LANES - 1) || !isFrom0To(what, 1)) {
            return BAD;
        }
        int waiting = now.all() & ~now.called;
        int fewest = walkOver(now, lane, waiting, HOUSES);
        if (what == 0) {
            return fewest;
        }
        for (int k = 0; k < now.houses; k++) {
            if ((waiting >> k & 1) == 1 && walkBy(now, lane, k, waiting, HOUSES) == fewest) {
                return k;
            }
        }
        return NONE;
    }

    private static int walkOver(Village v, int lane, int waiting, int deeper) {
        if (waiting == 0 || deeper <= 0) {
            return 0;
        }
        int fewest = LANES * HOUSES;
        for (int k = 0; k < v.houses; k++) {
            if ((waiting >> k & 1) == 1) {
                fewest = Math.min(fewest, walkBy(v, lane, k, waiting, deeper));
            }
        }
        return fewest;
    }

    private static int walkBy(Village v, int lane, int k, int waiting, int deeper) {
        int apart = Math.abs(lane - v.lane[k]);
        return Math.min(apart, LANES - apart) + walkOver(v, v.lane[k], waiting & ~(1 << k), deeper - 1);
    }

    // ---- plans

    public int best(int n) {
        if (!isFrom0To(n, MOST_ACTS)) {
            return BAD;
        }
        plans.lookAll(freshTrial(), n, 0);
        return plans.most;
    }

    public int ith(int n, int i) {
        if (!isFrom0To(n, MOST_ACTS) || !isFrom0To(i, MOST_ACTS - 1)) {
            return BAD;
        }
        plans.lookAll(freshTrial(), n, 0);
        return i < plans.length ? plans.first[i] : NONE;
    }

    public int ways(int n) {
        if (!isFrom0To(n, MOST_ACTS)) {
            return BAD;
        }
        plans.lookAll(freshTrial(), n, 0);
        return plans.bestCount;
    }

    public int round(int n, int houses) {
        if (!isFrom0To(n, MOST_ACTS) || !isFrom0To(houses, now.all())) {
            return BAD;
        }
        plans.lookAll(freshTrial(), n, houses);
        return plans.fewest <= MOST_ACTS ? plans.fewest : NONE;
    }

    public int bars(int n, int houses) {
        if (!isFrom0To(n, MOST_ACTS) || !isFrom0To(houses, now.all())) {
            return BAD;
        }
        plans.lookAll(freshTrial(), n, 0);
        return leastOf(houses & ~plans.reached);
    }

    // ---- a game, strangers, lots

    public int game(int n) {
        if (n < 1 || n > MOST_ACTS) {
            return BAD;
        }
        return plans.playOut(freshTrial(), n);
    }

    public int play(int n) {
        if (n < 1 || n > MOST_ACTS) {
            return BAD;
        }
        if (now.isOver()) {
            return NONE;
        }
        plans.playOut(freshTrial(), n);
        return plans.opening;
    }

    public int report(int k, int asked, int least, int most) {
        int highest = asked == 0 ? MOST_TRAY : MOST_RAIN;
        if (!isFrom0To(k, NIGHTS - 1) || !isFrom0To(asked, 1) || least < 0 || most < least || most > highest) {
            return BAD;
        }
        if (now.reports.count >= MOST_REPORTS) {
            return FULL;
        }
        return now.reports.add(k, asked, least, most);
    }

    public int forget() {
        int was = now.reports.count;
        now.reports.count = 0;
        return was;
    }

    public int stories(int what) {
        if (!isFrom0To(what, 3)) {
            return BAD;
        }
        now.reports.lookAll(now.dusk);
        if (what == 0) {
            return now.reports.fits;
        }
        return now.reports.fits == 0 ? NONE : now.reports.first[what - 1];
    }

    public int liar() {
        now.reports.lookAll(now.dusk);
        return now.reports.fits > 0 ? NONE : leastOf(now.reports.alone);
    }

    public int seed(int v) {
        int was = now.z;
        now.z = v;
        return was;
    }

    public int lot() {
        if (now.isOver()) {
            return STATE;
        }
        int worth = now.goBy(now.drawLot());
        now.score += worth;
        return worth;
    }

    public int times(int n, int v) {
        if (n < 1 || n > MOST_TIMES || !isFrom0To(v, MOST_WORTH)) {
            return BAD;
        }
        int z = now.z;
        int hits = 0;
        for (int i = 0; i < n; i++) {
            Village chance = freshTrial();
            chance.z = z;
            int worth = 0;
            for (int j = 0; j < NIGHTS && !chance.isOver(); j++) {
                worth += chance.goBy(chance.drawLot());
            }
            z = chance.z;
            hits += worth >= v ? 1 : 0;
        }
        return hits;
    }

    // ---- rows

    public int prove(int n) {
        if (!isFrom0To(n, MOST_ACTS)) {
            return BAD;
        }
        plans.lookAll(freshTrial(), n, 0);
        Village proof = freshTrial();
        rowCount = plans.length;
        for (int k = 0; k < rowCount && !proof.isOver(); k++) {
            rows[k * ROW_PARTS] = plans.first[k];
            rows[k * ROW_PARTS + 1] = proof.goBy(plans.first[k]);
            rows[k * ROW_PARTS + 2] = proof.called;
        }
        return rowCount;
    }

    public int row(int k, int what) {
        return isInRow(k, what) ? rows[k * ROW_PARTS + what] : NO_ROW;
    }

    public int alterRow(int k, int what, int v) {
        if (!isInRow(k, what)) {
            return NO_ROW;
        }
        int was = rows[k * ROW_PARTS + what];
        rows[k * ROW_PARTS + what] = v;
        return was;
    }

    private boolean isInRow(int k, int what) {
        return isFrom0To(k, rowCount - 1) && isFrom0To(what, ROW_PARTS - 1);
    }

    public int judge() {
        Village proof = freshTrial();
        for (int k = 0; k < rowCount; k++) {
            int told = rows[k * ROW_PARTS];
            if (proof.isOver() || !proof.isAct(told)) {
                return k + 1;
            }
            int worth = proof.goBy(told);
            if (worth != rows[k * ROW_PARTS + 1] || proof.called != rows[k * ROW_PARTS + 2]) {
                return k + 1;
            }
        }
        return 0;
    }

    // ---- the host

    public int sheet(int sheet, int sort, int n) {
        if (!isSheet(sheet) || sort < MISSING || sort >= SORTS) {
            return BAD;
        }
        int size = sort == MISSING ? 0 : n;
        if (size > MOST_ITEMS) {
            return BAD;
        }
        if (size < 0) {
            return BELOW_ZERO;
        }
        Arrays.fill(items[sheet], 0L);
        sorts[sheet] = sort;
        sizes[sheet] = size;
        return 1;
    }

    public int write(int sheet, int i, int v) {
        if (!isSheet(sheet)) {
            return BAD;
        }
        if (sorts[sheet] == MISSING) {
            return NOTHING;
        }
        if (!hasItem(sheet, i)) {
            return OUTSIDE;
        }
        items[sheet][i] = narrowed(sorts[sheet], v);
        return 1;
    }

    private static int narrowed(int sort, int v) {
        switch (sort) {
            case BYTES: return (byte) v;
            case SHORTS: return (short) v;
            case BOOLEANS: return v != 0 ? 1 : 0;
            default: return v;
        }
    }

    public int item(int sheet, int sort, int i) {
        if (!isSheet(sheet) || !isFrom0To(sort, SORTS - 1)) {
            return BAD;
        }
        int refused = takenFor(sheet, sort);
        if (refused != 0) {
            return refused;
        }
        return hasItem(sheet, i) ? (int) items[sheet][i] : OUTSIDE;
    }

    public int goAll(int sheet, int i, int n) {
        if (!isSheet(sheet) || !isFrom0To(n, MOST_GONE)) {
            return BAD;
        }
        int refused = takenFor(sheet, BYTES);
        if (refused != 0) {
            return refused;
        }
        int together = 0;
        for (int j = 0; j < n; j++) {
            if (!hasItem(sheet, i + j)) {
                return OUTSIDE;
            }
            int told = (int) items[sheet][i + j];
            if (now.isAct(told) && !now.isOver()) {
                int worth = now.goBy(told);
                now.score += worth;
                together += worth;
            }
        }
        return together;
    }

    public int wouldBe(int sheet, int i, int n) {
        if (!isSheet(sheet) || !isFrom0To(n, MOST_GONE)) {
            return BAD;
        }
        int refused = takenFor(sheet, BYTES);
        if (refused != 0) {
            return refused;
        }
        Village would = freshTrial();
        int together = 0;
        for (int j = 0; j < n; j++) {
            if (!hasItem(sheet, i + j)) {
                return OUTSIDE;
            }
            int told = (int) items[sheet][i + j];
            if (!would.isAct(told) || would.isOver()) {
                return STATE;
            }
            together += would.goBy(told);
        }
        return together;
    }

    public int shelf(int shelf, int what, int n) {
        if (!isShelf(shelf) || !isFrom0To(what, ON_NOTHING)) {
            return BAD;
        }
        if ((what == ON_HOUSE && !now.has(n)) || (what == ON_ROW && !isSheet(n))) {
            return BAD;
        }
        boolean isMissing = what == ON_ROW && sorts[n] == MISSING;
        shelfHolds[shelf] = isMissing ? ON_NOTHING : what;
        shelfNumber[shelf] = what == ON_ROW ? sizes[n] : n;
        shelfSort[shelf] = what == ON_ROW ? sorts[n] : MISSING;
        return 1;
    }

    public int taken(int shelf, int as) {
        boolean isRow = as >= AS_ROW && as < AS_ROW + SORTS;
        if (!isShelf(shelf) || !(isRow || isFrom0To(as, LOVELL))) {
            return BAD;
        }
        if (shelfHolds[shelf] == ON_ROW) {
            return shelfSort[shelf] == as - AS_ROW ? shelfNumber[shelf] : OTHER_SORT;
        }
        int k = houseOn(shelf);
        if (k == NONE) {
            return NOTHING;
        }
        return !isRow && isUnder(now.kind[k], as) ? k : OTHER_SORT;
    }

    public int act(int shelf, int act, int x) {
        acted = null;
        int k = isShelf(shelf) ? houseOn(shelf) : NONE;
        if (k == NONE || !isFrom0To(act, 3)) {
            return 0;
        }
        House thing = kinds[now.kind[k]];
        acted = thing;
        thing.become(k, now.lane[k]);
        int answer;
        switch (act) {
            case 0: answer = thing.knocks(x); break;
            case 1: answer = thing.waits(x); break;
            case 2: answer = thing.counts(x); break;
            default: answer = thing.sits(x); break;
        }
        return thing.isParted ? PARTED : answer;
    }

    public int trace(int i) {
        return acted != null && isFrom0To(i, acted.bodyCount - 1) ? acted.bodies[i] : NONE;
    }

    public int many(int what) {
        switch (what) {
            case 0: return now.houses;
            case 1: return now.rules.count;
            case 2: return Integer.bitCount(now.called);
            case 3: return now.reports.count;
            case 4: return rowCount;
            case 5: return tape.count;
            case 6: return acted == null ? 0 : acted.bodyCount;
            default: return BAD;
        }
    }

    private static boolean isSheet(int sheet) {
        return isFrom0To(sheet, SHEETS - 1);
    }

    private static boolean isShelf(int shelf) {
        return isFrom0To(shelf, SHELVES - 1);
    }

    private boolean hasItem(int sheet, int i) {
        return isFrom0To(i, sizes[sheet] - 1);
    }

    /** 0, or why a SHEET is refused as a row of a sort: one that is missing is of no other sort. */
    private int takenFor(int sheet, int sort) {
        if (sorts[sheet] == MISSING) {
            return NOTHING;
        }
        return sorts[sheet] == sort ? 0 : OTHER_SORT;
    }

    /** NONE also if again() took away the HOUSE that the SHELF holds by its number. */
    private int houseOn(int shelf) {
        return shelfHolds[shelf] == ON_HOUSE && now.has(shelfNumber[shelf]) ? shelfNumber[shelf] : NONE;
    }

    // ---- kept

    public int keep() {
        kept.become(now);
        isKept = true;
        return 1;
    }

    public int again() {
        if (!isKept) {
            return NONE;
        }
        now.become(kept);
        return now.houses;
    }

    // ---- what several of these need

    private Village freshTrial() {
        trial.become(now);
        return trial;
    }

    private static boolean isFrom0To(int v, int most) {
        return v >= 0 && v <= most;
    }

    /** The most that a part of a HOUSE can be; below 0 if there is no such part, or none that changes. */
    private static int mostOf(int what) {
        switch (what) {
            case RANK: return MOST_RANK;
            case GRIEF: return MOST_GRIEF;
            case LANE: return LANES - 1;
            case BUNS: return MOST_BUNS;
            case CALLED: return 1;
            default: return -1;
        }
    }

    /** The least HOUSE or REPORT of a set. */
    private static int leastOf(int set) {
        for (int k = 0; k < HOUSES; k++) {
            if ((set >> k & 1) == 1) {
                return k;
            }
        }
        return NONE;
    }

    /** Whether a HOUSE can be of that KIND. */
    private static boolean isKind(int kind) {
        return kind >= BRIDE && kind <= LOVELL;
    }

    private static boolean isUnder(int kind, int above) {
        boolean isNext = (kind == TROUBLE && above == SAD) || (kind == LOVELL && above == FARM);
        return kind == above || above == ANY_HOUSE || isNext;
    }

    private static int asks(int kind, int number, int night) {
        switch (kind) {
            case BRIDE: return HOUSE_ASKS + 1;
            case SAD: return HOUSE_ASKS / 2;
            case TROUBLE: return HOUSE_ASKS / 2 + number;
            case FARM: return 2 * HOUSE_ASKS;
            default: return 2 * HOUSE_ASKS - (night % 2 == 0 ? 9 : 0);
        }
    }

    /** What a HOUSE DRAWS where there are no LAMPS. */
    private static int draws(int kind, int grief, int rain, int night) {
        switch (kind) {
            case BRIDE: return rain;
            case SAD: return grief + rain + grief;
            case TROUBLE: return grief + rain + grief + 3;
            case FARM: return Math.max(grief, rain);
            default: return night % 3 == 0 ? 0 : Math.max(grief, rain);
        }
    }

    private static int rainBehind(int rain, int dusk) {
        int force = dusk / 4;
        switch (dusk % 4) {
            case 0: return Math.min(MOST_RAIN, rain + force);
            case 1: return Math.max(0, rain - force);
            case 2: return rain < 5 ? Math.min(5, rain + force) : Math.max(5, rain - force);
            default: return rain;
        }
    }

    private static int trayBehind(int tray, int rain) {
        return Math.min(MOST_TRAY, tray + 14 - rain);
    }

    /** All that keep() keeps. */
    private static final class Village {
        final int[] kind = new int[HOUSES];
        final int[] rank = new int[HOUSES];
        final int[] grief = new int[HOUSES];
        final int[] lane = new int[HOUSES];
        final int[] buns = new int[HOUSES];
        final int[] lamps = new int[LANES];
        final int[] dry = {6, 6, 6, 6, 6, 6};
        final int[] dusk = new int[NIGHTS];
        final Rules rules = new Rules();
        final Reports reports = new Reports();
        int houses;
        int called;
        int night;
        int end = 12;
        int rain;
        int tray = FIRST_TRAY;
        int score;
        int z = 1;

        Village() {
            Arrays.fill(dusk, 4);
        }

        void become(Village other) {
            System.arraycopy(other.kind, 0, kind, 0, HOUSES);
            System.arraycopy(other.rank, 0, rank, 0, HOUSES);
            System.arraycopy(other.grief, 0, grief, 0, HOUSES);
            System.arraycopy(other.lane, 0, lane, 0, HOUSES);
            System.arraycopy(other.buns, 0, buns, 0, HOUSES);
            System.arraycopy(other.lamps, 0, lamps, 0, LANES);
            System.arraycopy(other.dry, 0, dry, 0, LANES);
            System.arraycopy(other.dusk, 0, dusk, 0, NIGHTS);
            rules.become(other.rules);
            reports.become(other.reports);
            houses = other.houses;
            called = other.called;
            night = other.night;
            end = other.end;
            rain = other.rain;
            tray = other.tray;
            score = other.score;
            z = other.z;
        }

        void startAnew() {
            night = 0;
            score = 0;
            rain = 0;
            tray = FIRST_TRAY;
            called = 0;
            Arrays.fill(buns, 0);
        }

        int add(int newKind, int newRank, int newGrief, int newLane) {
            int k = houses;
            houses++;
            kind[k] = newKind;
            rank[k] = newRank;
            grief[k] = newGrief;
            lane[k] = newLane;
            return k;
        }

        boolean has(int k) {
            return k >= 0 && k < houses;
        }

        boolean isAct(int told) {
            return told >= 0 && told <= houses;
        }

        int all() {
            return (1 << houses) - 1;
        }

        boolean isOver() {
            return night >= end;
        }

        boolean isCalled(int k) {
            return (called >> k & 1) == 1;
        }

        int withBuns() {
            int set = 0;
            for (int k = 0; k < houses; k++) {
                set |= buns[k] > 0 ? 1 << k : 0;
            }
            return set;
        }

        int duskNow() {
            return night < NIGHTS ? dusk[night] : 0;
        }

        int get(int k, int what) {
            switch (what) {
                case KIND: return kind[k];
                case RANK: return rank[k];
                case GRIEF: return grief[k];
                case LANE: return lane[k];
                case BUNS: return buns[k];
                default: return isCalled(k) ? 1 : 0;
            }
        }

        void put(int k, int what, int v) {
            switch (what) {
                case RANK: rank[k] = v; break;
                case GRIEF: grief[k] = v; break;
                case LANE: lane[k] = v; break;
                case BUNS: buns[k] = v; break;
                default: called = called & ~(1 << k) | v << k; break;
            }
        }

        int asked(int k) {
            return asks(kind[k], k, night);
        }

        int drawn(int k) {
            return Math.max(0, draws(kind[k], grief[k], rain, night) - lamps[lane[k]]);
        }

        boolean isServed(int k) {
            return tray >= asked(k) && tray >= rank[k];
        }

        int will(int k) {
            return rules.willOf(kind[k], night, grief[k], drawn(k), rain, k);
        }

        /** A NIGHT goes by with an ACT, or BY_REST; who calls sees that it isn't OVER, and to SCORE. */
        int goBy(int told) {
            rain = rainBehind(rain, duskNow());
            int k = told == BY_REST ? toldInRest() : told - 1;
            int worth = has(k) ? worthOf(k, will(k)) : 0;
            tray = trayBehind(tray, rain);
            night++;
            return worth;
        }

        int goRest(int most) {
            int together = 0;
            for (int i = 0; i < most && !isOver(); i++) {
                together += goBy(BY_REST);
            }
            return together;
        }

        private int toldInRest() {
            for (int k = 0; k < houses; k++) {
                if (!isCalled(k) && isServed(k) && drawn(k) >= dry[lane[k]]) {
                    return k;
                }
            }
            return NONE;
        }

        private int worthOf(int k, int deed) {
            if (deed == SEND) {
                tray = Math.min(MOST_TRAY, tray + buns[k]);
                buns[k] = 0;
            }
            if (deed != GIVE || !isServed(k)) {
                return 0;
            }
            tray -= asked(k);
            buns[k] = Math.min(MOST_BUNS, buns[k] + 1);
            if (drawn(k) < dry[lane[k]]) {
                return 1;
            }
            int worth = 2 * buns[k] + (isCalled(k) ? 0 : 9);
            called |= 1 << k;
            buns[k] = 0;
            return worth;
        }

        /** Takes a NIGHT back that went by with an ACT, by what was ahead of it. */
        void takeBack(int told, int wasRain, int wasTray, int wasCalled, int wasBuns) {
            night--;
            rain = wasRain;
            tray = wasTray;
            called = wasCalled;
            if (has(told - 1)) {
                buns[told - 1] = wasBuns;
            }
        }

        int bunsFor(int told) {
            return has(told - 1) ? buns[told - 1] : 0;
        }

        int drawLot() {
            z = z * 1103515245 + 12345;
            return (z >>> 16) % (houses + 1);
        }

        int kinOf(int k) {
            int kin = 1 << k;
            // Each turn brings all that are CLOSE to one of them, so as many turns as HOUSES bring all.
            for (int turn = 0; turn < houses; turn++) {
                for (int other = 0; other < houses; other++) {
                    kin |= isCloseToOne(other, kin) ? 1 << other : 0;
                }
            }
            return kin;
        }

        private boolean isCloseToOne(int other, int set) {
            if (isCalled(other)) {
                return false;
            }
            for (int k = 0; k < houses; k++) {
                boolean isClose = lane[k] == lane[other] || Math.abs(grief[k] - grief[other]) <= 1;
                if ((set >> k & 1) == 1 && isClose) {
                    return true;
                }
            }
            return false;
        }
    }

    /** THE RULES: what RuleText made of a TEXT, each condition as steps that put truths on one another. */
    private static final class Rules {
        static final int MOST_STEPS = 100;
        static final int STEP_NOT = 1, STEP_AND = 2, STEP_OR = 3, STEP_LESS = 4, STEP_SAME = 5;

        final int[] kind = new int[MOST_RULES];
        final int[] deed = new int[MOST_RULES];
        final int[] stepsTill = new int[MOST_RULES];
        final int[] step = new int[MOST_STEPS];
        // A side is a NUMBER, or below 0 a FACT: -1 the first, -2 the next.
        final int[] left = new int[MOST_STEPS];
        final int[] right = new int[MOST_STEPS];
        final int[] facts = new int[FACTS];
        int count;
        int stepCount;

        void become(Rules other) {
            count = other.count;
            stepCount = other.stepCount;
            System.arraycopy(other.kind, 0, kind, 0, count);
            System.arraycopy(other.deed, 0, deed, 0, count);
            System.arraycopy(other.stepsTill, 0, stepsTill, 0, count);
            System.arraycopy(other.step, 0, step, 0, stepCount);
            System.arraycopy(other.left, 0, left, 0, stepCount);
            System.arraycopy(other.right, 0, right, 0, stepCount);
        }

        void addStep(int newStep, int newLeft, int newRight) {
            // 200 bytes tell 80 steps at most ("or1<2" tells two by five), so none is left out here.
            if (stepCount < MOST_STEPS) {
                step[stepCount] = newStep;
                left[stepCount] = newLeft;
                right[stepCount] = newRight;
                stepCount++;
            }
        }

        void addRule(int newKind, int newDeed) {
            if (count < MOST_RULES) {
                kind[count] = newKind;
                deed[count] = newDeed;
                stepsTill[count] = stepCount;
                count++;
            }
        }

        int willOf(int ofKind, int night, int grief, int draws, int rain, int number) {
            facts[0] = night;
            facts[1] = grief;
            facts[2] = draws;
            facts[3] = rain;
            facts[4] = number;
            for (int r = 0; r < count; r++) {
                if (isUnder(ofKind, kind[r]) && holds(r == 0 ? 0 : stepsTill[r - 1], stepsTill[r])) {
                    return deed[r];
                }
            }
            return GIVE;
        }

        private boolean holds(int from, int till) {
            // The lowest bit is the latest truth; without steps, the one that there is at first.
            int truths = 1;
            for (int i = from; i < till; i++) {
                int rest = truths >> 1;
                switch (step[i]) {
                    case STEP_NOT: truths ^= 1; break;
                    case STEP_AND: truths = (truths & 1) == 1 ? rest : rest & ~1; break;
                    case STEP_OR: truths = rest | truths & 1; break;
                    default: truths = truths << 1 | (isTrue(step[i], side(left[i]), side(right[i])) ? 1 : 0); break;
                }
            }
            return (truths & 1) == 1;
        }

        private int side(int v) {
            return v >= 0 ? v : facts[-1 - v];
        }

        private static boolean isTrue(int sign, int a, int b) {
            return sign == STEP_LESS ? a < b : sign == STEP_SAME ? a == b : a > b;
        }
    }

    /** THE TAPE, and how its bytes are read as a TEXT. */
    private static final class RuleText {
        static final String WORDS =
            "house bride sad trouble farm lovell give hold send if or and not night grief draws rain number ";
        static final int MOST_DIGITS = 4;
        // Parts of the TEXT: a NUMBER as it is, a NAME by its place in WORDS, another byte by itself.
        static final int WORD = 10000, WORD_GIVE = WORD + 6, WORD_IF = WORD + 9, WORD_OR = WORD + 10;
        static final int WORD_AND = WORD + 11, WORD_NOT = WORD + 12, WORD_NIGHT = WORD + 13;
        static final int BYTE = 20000, SEMICOLON = BYTE + ';', OPEN = BYTE + '(', CLOSE = BYTE + ')';
        // The bytes of <, =, > follow one another, as the steps for them do.
        static final int LESS = BYTE + '<', MORE = BYTE + '>';
        static final int UNKNOWN = 30000, END = 30001;
        static final int BLANK = 0, LETTER = 1, DIGIT = 2, OTHER = 3;

        final int[] bytes = new int[MOST_BYTES];
        int count;
        private final int[] part = new int[MOST_BYTES + 1];
        private final int[] place = new int[MOST_BYTES + 1];
        private final Rules draft = new Rules();
        private int at;
        private int fault;

        boolean takes(long eight, int n) {
            if (count + n > MOST_BYTES) {
                return false;
            }
            for (int i = 0; i < n; i++) {
                bytes[count + i] = (int) (eight >>> 8 * i & 255);
            }
            count += n;
            return true;
        }

        int tell(Rules rules) {
            divide();
            count = 0;
            at = 0;
            fault = NONE;
            draft.count = 0;
            draft.stepCount = 0;
            for (int r = 0; r < MOST_RULES && isNext(0, UNKNOWN); r++) {
                readRule();
            }
            if (isNext(0, UNKNOWN)) {
                fault = place[at];
            }
            if (fault != NONE) {
                return FAULTS - fault;
            }
            rules.become(draft);
            return rules.count;
        }

        private void divide() {
            int parts = 0;
            for (int i = 0; i < count; i++) {
                int sort = sortAt(i);
                boolean goesOn = sort != OTHER && i > 0 && sortAt(i - 1) == sort;
                if (sort != BLANK && !goesOn) {
                    part[parts] = sort == LETTER ? wordAt(i) : sort == DIGIT ? numberAt(i) : BYTE + bytes[i];
                    place[parts] = i;
                    parts++;
                }
            }
            part[parts] = END;
            place[parts] = count;
        }

        private int sortAt(int i) {
            int b = i < count ? bytes[i] : ' ';
            if (b >= 'a' && b <= 'z') {
                return LETTER;
            }
            if (b >= '0' && b <= '9') {
                return DIGIT;
            }
            return b == ' ' ? BLANK : OTHER;
        }

        private int wordAt(int i) {
            int word = 0;
            int letters = 0;
            boolean isSame = true;
            for (int c = 0; c < WORDS.length(); c++) {
                char letter = WORDS.charAt(c);
                if (letter != ' ') {
                    isSame = isSame && i + letters < count && bytes[i + letters] == letter;
                    letters++;
                } else if (isSame && sortAt(i + letters) != LETTER) {
                    return WORD + word;
                } else {
                    word++;
                    letters = 0;
                    isSame = true;
                }
            }
            return UNKNOWN;
        }

        private int numberAt(int i) {
            int value = 0;
            int digits = 0;
            for (int d = 0; d <= MOST_DIGITS && sortAt(i + d) == DIGIT; d++) {
                value = value * 10 + bytes[i + d] - '0';
                digits++;
            }
            return digits > MOST_DIGITS ? UNKNOWN : value;
        }

        /** Whether there is no FAULT yet, and the next part is one from least to most. */
        private boolean isNext(int least, int most) {
            return fault == NONE && part[at] >= least && part[at] <= most;
        }

        /** Goes on if the next part is as told, else that part is the FAULT. So the END is never passed. */
        private int pass(int least, int most) {
            int passed = part[at];
            if (fault != NONE) {
                return passed;
            }
            if (passed >= least && passed <= most) {
                at++;
            } else {
                fault = place[at];
            }
            return passed;
        }

        private void readRule() {
            int kind = pass(WORD, WORD + LOVELL) - WORD;
            if (isNext(WORD_IF, WORD_IF)) {
                at++;
                readAny(0);
            }
            int deed = pass(WORD_GIVE, WORD_GIVE + SEND) - WORD_GIVE;
            pass(SEMICOLON, SEMICOLON);
            draft.addRule(kind, deed);
        }

        private void readAny(int open) {
            readAll(open);
            for (int i = 0; i < MOST_BYTES && isNext(WORD_OR, WORD_OR); i++) {
                at++;
                readAll(open);
                draft.addStep(Rules.STEP_OR, 0, 0);
            }
        }

        private void readAll(int open) {
            readOne(open);
            for (int i = 0; i < MOST_BYTES && isNext(WORD_AND, WORD_AND); i++) {
                at++;
                readOne(open);
                draft.addStep(Rules.STEP_AND, 0, 0);
            }
        }

        private void readOne(int open) {
            boolean isNot = false;
            for (int i = 0; i < MOST_BYTES && isNext(WORD_NOT, WORD_NOT); i++) {
                at++;
                isNot = !isNot;
            }
            if (open < MOST_OPEN && isNext(OPEN, OPEN)) {
                at++;
                readAny(open + 1);
                pass(CLOSE, CLOSE);
            } else {
                int left = readSide();
                int sign = pass(LESS, MORE);
                draft.addStep(Rules.STEP_LESS + sign - LESS, left, readSide());
            }
            if (isNot) {
                draft.addStep(Rules.STEP_NOT, 0, 0);
            }
        }

        private int readSide() {
            if (isNext(0, WORD - 1)) {
                return pass(0, WORD - 1);
            }
            return WORD_NIGHT - 1 - pass(WORD_NIGHT, WORD_NIGHT + FACTS - 1);
        }
    }

    /** REPORTS, and which STRANGE HOUSES FIT them. */
    private static final class Reports {
        final int[] behind = new int[MOST_REPORTS];
        final int[] asked = new int[MOST_REPORTS];
        final int[] least = new int[MOST_REPORTS];
        final int[] most = new int[MOST_REPORTS];
        int count;
        int fits;
        // KIND, GRIEF, RAIN of the first that FITS.
        final int[] first = new int[3];
        // REPORTS that are, each, the only one that is not so by some STRANGE HOUSE.
        int alone;

        void become(Reports other) {
            count = other.count;
            System.arraycopy(other.behind, 0, behind, 0, count);
            System.arraycopy(other.asked, 0, asked, 0, count);
            System.arraycopy(other.least, 0, least, 0, count);
            System.arraycopy(other.most, 0, most, 0, count);
        }

        int add(int k, int what, int from, int to) {
            behind[count] = k;
            asked[count] = what;
            least[count] = from;
            most[count] = to;
            count++;
            return count - 1;
        }

        void lookAll(int[] dusk) {
            fits = 0;
            alone = 0;
            for (int kind = BRIDE; kind <= LOVELL; kind++) {
                for (int grief = 0; grief <= MOST_GRIEF; grief++) {
                    for (int rain = 0; rain <= MOST_RAIN; rain++) {
                        takeIn(wrongBy(kind, grief, rain, dusk), kind, grief, rain);
                    }
                }
            }
        }

        private void takeIn(int wrong, int kind, int grief, int rain) {
            if (wrong == 0 && fits == 0) {
                first[0] = kind;
                first[1] = grief;
                first[2] = rain;
            }
            fits += wrong == 0 ? 1 : 0;
            alone |= Integer.bitCount(wrong) == 1 ? wrong : 0;
        }

        private int wrongBy(int kind, int grief, int firstRain, int[] dusk) {
            int rain = firstRain;
            int tray = FIRST_TRAY;
            int wrong = wrongBehind(0, tray, rain);
            for (int night = 0; night < NIGHTS - 1; night++) {
                rain = rainBehind(rain, dusk[night]);
                int asked = asks(kind, 0, night);
                if (night % 2 == 0 && tray >= asked) {
                    tray -= draws(kind, grief, rain, night) < 6 ? asked - 1 : asked;
                }
                tray = trayBehind(tray, rain);
                wrong |= wrongBehind(night + 1, tray, rain);
            }
            return wrong;
        }

        private int wrongBehind(int nights, int tray, int rain) {
            int wrong = 0;
            for (int i = 0; i < count; i++) {
                int was = asked[i] == 0 ? tray : rain;
                boolean isSo = was >= least[i] && was <= most[i];
                wrong |= behind[i] == nights && !isSo ? 1 << i : 0;
            }
            return wrong;
        }
    }

    /** All PLANS, and the GAME, from how a Village is; that Village is in the end as it was. */
    private static final class Plans {
        int most;
        int bestCount;
        int length;
        int fewest;
        int reached;
        int opening;
        final int[] first = new int[MOST_ACTS];
        private final int[] path = new int[MOST_ACTS];
        private int wanted;

        void lookAll(Village v, int n, int houses) {
            most = -1;
            bestCount = 0;
            length = Math.max(0, Math.min(n, v.end - v.night));
            fewest = MOST_ACTS + 1;
            reached = 0;
            wanted = houses;
            look(this, v, 0, 0, 0);
        }

        private static void look(Plans p, Village v, int depth, int worth, int acts) {
            if (depth >= p.length || depth >= MOST_ACTS) {
                p.takeIn(v.called, worth, acts);
                return;
            }
            int rain = v.rain;
            int tray = v.tray;
            int called = v.called;
            for (int told = 0; told <= v.houses; told++) {
                int buns = v.bunsFor(told);
                p.path[depth] = told;
                int more = v.goBy(told);
                look(p, v, depth + 1, worth + more, told == 0 ? acts : acts + 1);
                v.takeBack(told, rain, tray, called, buns);
            }
        }

        private void takeIn(int called, int worth, int acts) {
            reached |= called;
            if ((wanted & ~called) == 0) {
                fewest = Math.min(fewest, acts);
            }
            if (worth > most) {
                most = worth;
                bestCount = 0;
                // PLANS come with the lesser ACT first, so the earliest of the best is the FIRST.
                System.arraycopy(path, 0, first, 0, MOST_ACTS);
            }
            bestCount += worth == most ? 1 : 0;
        }

        int playOut(Village v, int n) {
            return playOn(this, v, n, true);
        }

        private static int playOn(Plans p, Village v, int left, boolean wantsMost) {
            if (left <= 0 || v.isOver()) {
                return 0;
            }
            int rain = v.rain;
            int tray = v.tray;
            int called = v.called;
            int value = 0;
            int choice = -1;
            for (int told = 0; told <= v.houses; told++) {
                int buns = v.bunsFor(told);
                int comes = v.goBy(told);
                comes += playOn(p, v, left - 1, !wantsMost);
                v.takeBack(told, rain, tray, called, buns);
                if (choice < 0 || (wantsMost ? comes > value : comes < value)) {
                    value = comes;
                    choice = told;
                }
            }
            // Who begins comes back last, so that choice is the one that stays.
            p.opening = choice;
            return value;
        }
    }

    /** A HOUSE as a thing: what its KIND does. One object serves all of a KIND, and becomes the one that acts. */
    private static class House {
        int number;
        int lane;
        final int[] bodies = new int[MOST_BODIES];
        int bodyCount;
        // Set when something was to be parted by 0: nothing begins from then on.
        boolean isParted;

        final void become(int newNumber, int newLane) {
            number = newNumber;
            lane = newLane;
            bodyCount = 0;
            isParted = false;
        }

        final void begin(int body) {
            if (!isParted && bodyCount < MOST_BODIES) {
                bodies[bodyCount] = body;
                bodyCount++;
            }
        }

        int knocks(int x) {
            begin(10);
            return x - 2 * number;
        }

        int waits(int x) {
            begin(11);
            return knocks(x) ^ lane;
        }

        int counts(int x) {
            begin(12);
            int by = 2 * number - lane;
            if (by == 0) {
                isParted = true;
                return 0;
            }
            return x % by;
        }

        int sits(int x) {
            begin(13);
            int waited = waits(x);
            return waited + 2 * counts(x);
        }
    }

    private static final class Bride extends House {
        int knocks(int x) {
            begin(20);
            return super.knocks(x) + 13;
        }
    }

    private static class Sad extends House {
        int waits(int x) {
            begin(30);
            return super.waits(x - lane);
        }
    }

    private static final class Trouble extends Sad {
        int knocks(int x) {
            begin(50);
            return super.knocks(x) * 2;
        }

        int sits(int x) {
            begin(51);
            int sat = super.sits(x);
            return sat - waits(number);
        }
    }

    private static class Farm extends House {
        int counts(int x) {
            begin(40);
            return super.counts(x) - 1;
        }
    }

    private static final class Lovell extends Farm {
        int waits(int x) {
            begin(60);
            return super.waits(x) ^ 12;
        }

        int counts(int x) {
            begin(61);
            int counted = super.counts(x);
            return counted + knocks(number);
        }
    }
}
