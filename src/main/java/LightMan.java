/**
 * A tunnel of places in a row, a man in white at its far mouth, and those who go
 * towards him by how much faith they have. The numbered promises stand in DOC.md.
 */
public final class LightMan {
    public static final int BAD = -1, FULL = -2, NONE = -3;

    private static final int NO_ROW = -9;
    private static final int NOTHING = -11, OUTSIDE = -12, OTHER_SORT = -13, BELOW_ZERO = -14, BY_ZERO = -15;
    private static final int FIRST_FAULT = -100;

    private static final int HUM = 0, DREAD = 1, LOVE = 2, LAMP = 3, LAWS = 4;
    private static final int[] MOST_OF_LAW = {9, 99, 99, 99};
    private static final int[] LAW_AT_FIRST = {3, 10, 90, 20};

    private static final int RESTS = 6, SETS_OF_RESTS = 64;
    private static final int FOG_AT_FIRST = 2, ARMS_AT_FIRST = 4, MOST_IN_ROSTER = 9;

    private static final int MOUTH = 12, LAST_PLACE = 11;
    private static final int MOST_GOERS = 8, MOST_FAITH = 99, FAITH_UNTOLD = 50, MOST_MOVED = 9999;
    private static final int KINDS = 6;
    /** For each kind the set of the kinds that it can be taken for: itself and those above it. */
    private static final int[] TAKEN_FOR = {1, 3, 5, 11, 21, 33};

    private static final int STAYED = 0, WENT_ON = 1, SAT = 2, WENT_BACK = 3;
    private static final int LONGEST = 60, LONGEST_FOR = 40, MOST_TRIES = 30;
    private static final int MOST_SUNDAYS = 8, MOST_HOPED = 99;

    private static final int MOST_BYTES = 200;
    private static final int END = 0, NAME = 1, NUMBER = 2, SIGN = 3;

    private static final int MOST_ROWS = 10, ROW_PARTS = 3;
    private static final int MOST_BODIES = 30;
    private static final int SHEETS = 4, SORTS = 4, MOST_ITEMS = 40, MOST_MINDS = 8;
    private static final int BYTES = 0, SHORTS = 1, MISSING = -1;
    private static final int SHELVES = 4, HOLDS_GOER = 0, HOLDS_ROW = 1, HOLDS_NOTHING = 2;
    private static final int AS_ROW = 10;
    private static final int LOOKS = 0, WALKS = 1, PARTS = 2, COMES = 3;

    private final Kind[] kinds = {new Kind(), new Driver(), new Mourner(), new Stoker(), new Widow(), new Child()};
    private final Tunnel now = new Tunnel(kinds);
    private final Tunnel kept = new Tunnel(kinds);
    /** What is asked is tried here, so that nothing changes in the tunnel itself. */
    private final Tunnel tried = new Tunnel(kinds);
    private boolean isKept = false;
    private final Tape tape = new Tape();
    private final int[] rows = new int[MOST_ROWS * ROW_PARTS];
    private int rowCount = 0;
    private final Acting acting = new Acting();
    private final Items[] sheets = new Items[SHEETS];
    private final int[] shelfHolds = {HOLDS_NOTHING, HOLDS_NOTHING, HOLDS_NOTHING, HOLDS_NOTHING};
    private final int[] shelfGoers = new int[SHELVES];
    private final Items[] shelfRows = new Items[SHELVES];

    public LightMan() {
    }

    // ---- the tape

    public int feed(long eight, int n) {
        if (isOutside(n, 1, 8)) {
            return BAD;
        }
        return tape.take(eight, n) ? tape.size : FULL;
    }

    public int tunnel() {
        int fault = tape.readInto(tried);
        tape.size = 0;
        if (fault >= 0) {
            return FIRST_FAULT - fault;
        }
        tried.z = now.z;
        now.copyFrom(tried);
        rowCount = 0;
        return now.count;
    }

    // ---- laws, roster, goers

    public int set(int law, int v) {
        if (isOutside(law, 0, LAWS - 1) || isOutside(v, 0, MOST_OF_LAW[law])) {
            return BAD;
        }
        int was = now.laws[law];
        now.laws[law] = v;
        return was;
    }

    public int lawOf(int law) {
        return isOutside(law, 0, LAWS - 1) ? BAD : now.laws[law];
    }

    public int roster(int rest, int what, int v) {
        if (isNoRest(rest) || isOutside(what, 0, 1) || isOutside(v, 0, MOST_IN_ROSTER)) {
            return BAD;
        }
        int[] list = what == 0 ? now.fogs : now.arms;
        int was = list[rest];
        list[rest] = v;
        return was;
    }

    public int rosterOf(int rest, int what) {
        if (isNoRest(rest) || isOutside(what, 0, 1)) {
            return BAD;
        }
        return what == 0 ? now.fogs[rest] : now.arms[rest];
    }

    public int goer(int kind, int faith, int place) {
        if (isNoKind(kind) || isOutside(faith, 0, MOST_FAITH) || isOutside(place, 0, LAST_PLACE)) {
            return BAD;
        }
        if (now.count >= MOST_GOERS) {
            return FULL;
        }
        now.add(kind, faith, place);
        return now.count - 1;
    }

    public int of(int goer, int what) {
        if (!now.has(goer)) {
            return BAD;
        }
        switch (what) {
            case 0: return now.kinds[goer];
            case 1: return now.faiths[goer];
            case 2: return now.places[goer];
            case 3: return now.moved[goer];
            case 4: return now.seesNow(goer) ? 1 : 0;
            default: return BAD;
        }
    }

    public int does(int goer, int what) {
        if (!now.has(goer) || isOutside(what, 0, 3)) {
            return BAD;
        }
        if (now.isThrough(goer)) {
            return NONE;
        }
        int step = now.stepNumber;
        int fog = now.fogs[restOf(step)];
        int arms = now.arms[restOf(step)];
        int hum = now.laws[HUM];
        Kind kind = kinds[now.kinds[goer]];
        switch (what) {
            case 0: return 1000 + kind.sight(fog, arms, hum);
            case 1: return 1000 + kind.keen(arms, hum);
            case 2: return 1000 + kind.fears(fog);
            default: return 1000 + kind.pace(step, now.sees(goer, step));
        }
    }

    public int mind(int goer, int kind) {
        if (!now.has(goer) || isNoKind(kind)) {
            return BAD;
        }
        int was = now.kinds[goer];
        now.kinds[goer] = kind;
        return was;
    }

    public int trust(int goer, int v) {
        if (!now.has(goer) || isOutside(v, 0, MOST_FAITH)) {
            return BAD;
        }
        int was = now.faiths[goer];
        now.faiths[goer] = v;
        return was;
    }

    public int bring(int goer, int place) {
        if (!now.has(goer) || isOutside(place, 0, MOUTH)) {
            return BAD;
        }
        int was = now.places[goer];
        now.places[goer] = place;
        return was;
    }

    // ---- steps

    public int steps(int n) {
        if (isOutside(n, 1, LONGEST)) {
            return BAD;
        }
        for (int i = 0; i < n; i++) {
            now.goStep();
        }
        return Integer.bitCount(now.throughSet());
    }

    public int seed(int v) {
        int was = now.z;
        now.z = v;
        return was;
    }

    public int step() {
        now.goStepByDraws();
        return Integer.bitCount(now.throughSet());
    }

    public int luck(int n) {
        if (isOutside(n, 1, MOST_TRIES)) {
            return BAD;
        }
        tried.copyFrom(now);
        tried.goStep();
        int plain = tried.placesTogether();
        int z = now.z;
        int farther = 0;
        for (int i = 0; i < n; i++) {
            tried.copyFrom(now);
            tried.z = z;
            tried.goStepByDraws();
            z = tried.z;
            if (tried.placesTogether() > plain) {
                farther++;
            }
        }
        return farther;
    }

    public int state(int what) {
        switch (what) {
            case 0: return now.stepNumber;
            case 1: return now.throughSet();
            case 2: return now.seeingSet();
            case 3: return now.faithTogether();
            case 4: return now.placesTogether();
            case 5: return now.laws[LOVE] < now.laws[DREAD] ? 1 : 0;
            default: return BAD;
        }
    }

    // ---- what is tried

    public int where(int goer, int n) {
        if (!now.has(goer) || isOutside(n, 0, LONGEST)) {
            return BAD;
        }
        tried.copyFrom(now);
        tried.goOnAlone(goer, n);
        return tried.places[goer];
    }

    public int comes(int goer) {
        if (!now.has(goer)) {
            return BAD;
        }
        int soonest = soonestAs(goer, now.kinds[goer]);
        return soonest > LONGEST ? NONE : soonest;
    }

    public int sits(int goer) {
        return now.has(goer) ? firstStepOf(goer, SAT) : BAD;
    }

    public int back(int goer) {
        return now.has(goer) ? firstStepOf(goer, WENT_BACK) : BAD;
    }

    public int passed(int n) {
        if (isOutside(n, 0, LONGEST)) {
            return BAD;
        }
        tried.copyFrom(now);
        return tried.passedBehind(n);
    }

    public int armsFor(int rest, int n) {
        if (isNoRest(rest) || isOutside(n, 1, LONGEST_FOR)) {
            return BAD;
        }
        int best = 0;
        int most = -1;
        for (int arms = 0; arms <= MOST_IN_ROSTER; arms++) {
            tried.copyFrom(now);
            tried.arms[rest] = arms;
            int through = tried.passedBehind(n);
            if (through > most) {
                most = through;
                best = arms;
            }
        }
        return best;
    }

    public int fogFor(int rest, int goer, int n) {
        if (isNoRest(rest) || !now.has(goer) || isOutside(n, 0, LONGEST_FOR)) {
            return BAD;
        }
        tried.copyFrom(now);
        for (int fog = MOST_IN_ROSTER; fog >= 0; fog--) {
            tried.copyGoer(now, goer);
            tried.fogs[rest] = fog;
            if (tried.goOnAlone(goer, n)) {
                return fog;
            }
        }
        return NONE;
    }

    public int faithFor(int goer, int n) {
        if (!now.has(goer) || isOutside(n, 0, LONGEST_FOR)) {
            return BAD;
        }
        tried.copyFrom(now);
        for (int faith = 0; faith <= MOST_FAITH; faith++) {
            tried.copyGoer(now, goer);
            tried.faiths[goer] = faith;
            if (tried.goOnAlone(goer, n)) {
                return faith;
            }
        }
        return NONE;
    }

    public int kindFor(int goer) {
        if (!now.has(goer)) {
            return BAD;
        }
        int best = 0;
        int soonest = soonestAs(goer, 0);
        for (int kind = 1; kind < KINDS; kind++) {
            int behind = soonestAs(goer, kind);
            if (behind < soonest) {
                soonest = behind;
                best = kind;
            }
        }
        return best;
    }

    public int liftedFor(int n, int v) {
        if (isOutside(n, 0, LONGEST_FOR) || isOutside(v, 0, MOST_GOERS)) {
            return BAD;
        }
        if (v > now.count) {
            return NONE;
        }
        for (int many = 0; many <= RESTS; many++) {
            for (int set = 0; set < SETS_OF_RESTS; set++) {
                if (Integer.bitCount(set) != many) {
                    continue;
                }
                tryLifting(set);
                if (tried.passedBehind(n) >= v) {
                    return set;
                }
            }
        }
        return NONE;
    }

    public int fits(int sheet, int goer, int what) {
        if (isNoSheet(sheet) || !now.has(goer) || isOutside(what, 0, 1)) {
            return BAD;
        }
        Items told = sheets[sheet];
        if (told == null) {
            return NOTHING;
        }
        int fitting = 0;
        int least = NONE;
        tried.copyFrom(now);
        for (int faith = MOST_FAITH; faith >= 0; faith--) {
            tried.copyGoer(now, goer);
            tried.faiths[goer] = faith;
            if (tried.goesBy(goer, told.values)) {
                fitting++;
                least = faith;
            }
        }
        return what == 0 ? fitting : least;
    }

    /** Behind how many steps one is through as one of a kind; beyond LONGEST, if not by then. */
    private int soonestAs(int goer, int kind) {
        tried.copyFrom(now);
        tried.kinds[goer] = kind;
        for (int n = 0; n <= LONGEST; n++) {
            if (tried.isThrough(goer)) {
                return n;
            }
            tried.advance(goer, tried.stepNumber + n);
        }
        return LONGEST + 1;
    }

    private int firstStepOf(int goer, int deed) {
        tried.copyFrom(now);
        for (int n = 0; n < LONGEST; n++) {
            if (tried.advance(goer, tried.stepNumber + n) == deed) {
                return n + 1;
            }
        }
        return NONE;
    }

    private void tryLifting(int set) {
        tried.copyFrom(now);
        for (int rest = 0; rest < RESTS; rest++) {
            tried.arms[rest] = (set >> rest & 1) == 1 ? MOST_IN_ROSTER : 0;
        }
    }

    // ---- odds of another lamp

    public long odds(int n, int k, int part) {
        if (isOutside(n, 0, MOST_SUNDAYS) || isOutside(k, 0, n) || isOutside(part, 0, 1)) {
            return BAD;
        }
        int lamp = now.laws[LAMP];
        long above = 1;
        long below = 1;
        for (int i = 0; i < n; i++) {
            above = above * (i < k ? lamp : 100 - lamp);
            below = below * 100;
        }
        return partOf(above * waysToTake(n, k), below, part);
    }

    public long hope(int n, int part) {
        if (isOutside(n, 0, MOST_HOPED) || isOutside(part, 0, 1)) {
            return BAD;
        }
        return partOf((long) n * now.laws[LAMP], 100, part);
    }

    private static long waysToTake(int n, int k) {
        long ways = 1;
        for (int i = 0; i < k; i++) {
            ways = ways * (n - i) / (i + 1);
        }
        return ways;
    }

    private static long partOf(long above, long below, int part) {
        long common = commonDivisor(above, below);
        if (common == 0) {
            return 0;
        }
        return (part == 0 ? above : below) / common;
    }

    private static long commonDivisor(long a, long b) {
        long greater = a;
        long less = b;
        // Two longs are through in fewer than 100 rounds.
        for (int i = 0; i < 100 && less != 0; i++) {
            long left = greater % less;
            greater = less;
            less = left;
        }
        return greater;
    }

    // ---- rows of steps

    public int prove(int goer, int n) {
        if (!now.has(goer) || isOutside(n, 1, MOST_ROWS)) {
            return BAD;
        }
        tried.copyFrom(now);
        for (int i = 0; i < n; i++) {
            tried.goStep();
            for (int part = 0; part < ROW_PARTS; part++) {
                rows[i * ROW_PARTS + part] = tried.partOfRow(goer, part);
            }
        }
        rowCount = n;
        return n;
    }

    public int row(int i, int what) {
        return isNoPartOfRow(i, what) ? NO_ROW : rows[i * ROW_PARTS + what];
    }

    public int alterRow(int i, int what, int v) {
        if (isNoPartOfRow(i, what)) {
            return NO_ROW;
        }
        int was = rows[i * ROW_PARTS + what];
        rows[i * ROW_PARTS + what] = v;
        return was;
    }

    public int judge(int goer) {
        if (!now.has(goer)) {
            return BAD;
        }
        tried.copyFrom(now);
        for (int i = 0; i < rowCount; i++) {
            tried.goStep();
            for (int part = 0; part < ROW_PARTS; part++) {
                if (rows[i * ROW_PARTS + part] != tried.partOfRow(goer, part)) {
                    return i + 1;
                }
            }
        }
        return 0;
    }

    private boolean isNoPartOfRow(int i, int what) {
        return isOutside(i, 0, rowCount - 1) || isOutside(what, 0, ROW_PARTS - 1);
    }

    // ---- sheets

    public int minds(int sheet, int i, int goer, int n) {
        if (isNoSheet(sheet) || !now.has(goer) || isOutside(n, 0, MOST_MINDS) || n > now.count - goer) {
            return BAD;
        }
        Items told = sheets[sheet];
        if (told == null) {
            return NOTHING;
        }
        if (told.sort != BYTES) {
            return OTHER_SORT;
        }
        if (isOutside(i, 0, told.values.length) || n > told.values.length - i) {
            return OUTSIDE;
        }
        for (int k = 0; k < n; k++) {
            now.faiths[goer + k] = heldFaith(told.values[i + k]);
        }
        return n;
    }

    public int sheet(int sheet, int sort, int n) {
        if (isNoSheet(sheet) || isOutside(sort, MISSING, SORTS - 1)) {
            return BAD;
        }
        if (sort == MISSING) {
            sheets[sheet] = null;
            return 1;
        }
        if (n > MOST_ITEMS) {
            return BAD;
        }
        if (n < 0) {
            return BELOW_ZERO;
        }
        // A new one each time: a shelf may still hold the row that the sheet was.
        sheets[sheet] = new Items(sort, n);
        return 1;
    }

    public int put(int sheet, int i, int v) {
        if (isNoSheet(sheet)) {
            return BAD;
        }
        Items told = sheets[sheet];
        if (told == null) {
            return NOTHING;
        }
        if (isOutside(i, 0, told.values.length - 1)) {
            return OUTSIDE;
        }
        told.values[i] = told.narrowed(v);
        return 1;
    }

    public int item(int sheet, int sort, int i) {
        if (isNoSheet(sheet) || isOutside(sort, 0, SORTS - 1)) {
            return BAD;
        }
        Items told = sheets[sheet];
        if (told == null) {
            return NOTHING;
        }
        if (told.sort != sort) {
            return OTHER_SORT;
        }
        return isOutside(i, 0, told.values.length - 1) ? OUTSIDE : told.values[i];
    }

    // ---- shelves and acts

    public int shelf(int shelf, int what, int n) {
        if (isNoShelf(shelf) || isOutside(what, HOLDS_GOER, HOLDS_NOTHING)
                || what == HOLDS_GOER && !now.has(n) || what == HOLDS_ROW && isNoSheet(n)) {
            return BAD;
        }
        shelfHolds[shelf] = what;
        shelfGoers[shelf] = what == HOLDS_GOER ? n : 0;
        shelfRows[shelf] = what == HOLDS_ROW ? sheets[n] : null;
        return 1;
    }

    public int taken(int shelf, int as) {
        boolean asKind = !isNoKind(as);
        if (isNoShelf(shelf) || !asKind && isOutside(as, AS_ROW, AS_ROW + SORTS - 1)) {
            return BAD;
        }
        if (holdsGoer(shelf)) {
            int goer = shelfGoers[shelf];
            return asKind && (TAKEN_FOR[now.kinds[goer]] >> as & 1) == 1 ? goer : OTHER_SORT;
        }
        Items held = shelfRows[shelf];
        if (held == null) {
            return NOTHING;
        }
        return held.sort == as - AS_ROW ? held.values.length : OTHER_SORT;
    }

    public int act(int shelf, int act, int x) {
        acting.began = 0;
        acting.isBroken = false;
        if (isNoShelf(shelf) || isOutside(act, LOOKS, COMES) || !holdsGoer(shelf)) {
            return 0;
        }
        int goer = shelfGoers[shelf];
        Kind kind = kinds[now.kinds[goer]];
        acting.number = goer;
        acting.place = now.places[goer];
        int answer;
        switch (act) {
            case LOOKS: answer = kind.actLooks(acting, x); break;
            case WALKS: answer = kind.actWalks(acting, x); break;
            case PARTS: answer = kind.actParts(acting, x); break;
            default: answer = kind.actComes(acting, x); break;
        }
        return acting.isBroken ? BY_ZERO : answer;
    }

    public int trace(int i) {
        return isOutside(i, 0, acting.began - 1) ? NONE : acting.bodies[i];
    }

    /** A shelf holds a goer by its number only, which may have gone since, and come again. */
    private boolean holdsGoer(int shelf) {
        return shelfHolds[shelf] == HOLDS_GOER && now.has(shelfGoers[shelf]);
    }

    // ---- counts, and tunnels kept

    public int many(int what) {
        switch (what) {
            case 0: return now.count;
            case 1: return Integer.bitCount(now.throughSet());
            case 2: return Integer.bitCount(now.seeingSet());
            case 3: return now.movedEver();
            case 4: return rowCount;
            case 5: return tape.size;
            case 6: return acting.began;
            default: return BAD;
        }
    }

    public int keep() {
        kept.copyFrom(now);
        isKept = true;
        return 1;
    }

    public int again() {
        if (!isKept) {
            return NONE;
        }
        now.copyFrom(kept);
        return now.count;
    }

    // ---- tests of numbers

    private static boolean isOutside(int v, int least, int most) {
        return v < least || v > most;
    }

    private static boolean isNoRest(int rest) {
        return isOutside(rest, 0, RESTS - 1);
    }

    private static boolean isNoKind(int kind) {
        return isOutside(kind, 0, KINDS - 1);
    }

    private static boolean isNoSheet(int sheet) {
        return isOutside(sheet, 0, SHEETS - 1);
    }

    private static boolean isNoShelf(int shelf) {
        return isOutside(shelf, 0, SHELVES - 1);
    }

    /** Never outside the roster, whatever the step. */
    private static int restOf(int step) {
        return Math.floorMod(step, RESTS);
    }

    private static int heldFaith(int v) {
        return Math.max(0, Math.min(MOST_FAITH, v));
    }

    /** Laws, roster, goers, the step and z: all that is tried, told in a text and kept. */
    private static final class Tunnel {
        final Kind[] allKinds;
        final int[] laws = new int[LAWS];
        final int[] fogs = new int[RESTS];
        final int[] arms = new int[RESTS];
        final int[] kinds = new int[MOST_GOERS];
        final int[] faiths = new int[MOST_GOERS];
        final int[] places = new int[MOST_GOERS];
        final int[] moved = new int[MOST_GOERS];
        int count;
        int stepNumber;
        int z = 1;

        Tunnel(Kind[] allKinds) {
            this.allKinds = allKinds;
            clear();
        }

        /** All becomes as at first, but for z. */
        void clear() {
            for (int law = 0; law < LAWS; law++) {
                laws[law] = LAW_AT_FIRST[law];
            }
            for (int rest = 0; rest < RESTS; rest++) {
                fogs[rest] = FOG_AT_FIRST;
                arms[rest] = ARMS_AT_FIRST;
            }
            count = 0;
            stepNumber = 0;
        }

        void copyFrom(Tunnel other) {
            for (int law = 0; law < LAWS; law++) {
                laws[law] = other.laws[law];
            }
            for (int rest = 0; rest < RESTS; rest++) {
                fogs[rest] = other.fogs[rest];
                arms[rest] = other.arms[rest];
            }
            count = other.count;
            for (int i = 0; i < count; i++) {
                copyGoer(other, i);
            }
            stepNumber = other.stepNumber;
            z = other.z;
        }

        void copyGoer(Tunnel other, int i) {
            kinds[i] = other.kinds[i];
            faiths[i] = other.faiths[i];
            places[i] = other.places[i];
            moved[i] = other.moved[i];
        }

        boolean has(int i) {
            return i >= 0 && i < count;
        }

        /** The caller has seen that there is room. */
        void add(int kind, int faith, int place) {
            kinds[count] = kind;
            faiths[count] = faith;
            places[count] = place;
            moved[count] = 0;
            count++;
        }

        boolean isThrough(int i) {
            return places[i] >= MOUTH;
        }

        /** Whether one that isn't through sees him in a step. */
        boolean sees(int i, int step) {
            int rest = restOf(step);
            return MOUTH - places[i] <= allKinds[kinds[i]].sight(fogs[rest], arms[rest], laws[HUM]);
        }

        boolean seesNow(int i) {
            return !isThrough(i) && sees(i, stepNumber);
        }

        /** One goer's part of a step; it answers what that one did. */
        int advance(int i, int step) {
            if (isThrough(i)) {
                return STAYED;
            }
            Kind kind = allKinds[kinds[i]];
            int rest = restOf(step);
            boolean seen = sees(i, step);
            if (seen) {
                faiths[i] = heldFaith(faiths[i] + kind.keen(arms[rest], laws[HUM]));
                moved[i] = Math.min(MOST_MOVED, moved[i] + 1);
            } else {
                faiths[i] = heldFaith(faiths[i] - kind.fears(fogs[rest]));
            }
            if (faiths[i] < laws[DREAD]) {
                places[i] = Math.max(0, places[i] - 1);
                return WENT_BACK;
            }
            if (faiths[i] > laws[LOVE]) {
                return SAT;
            }
            places[i] = Math.min(MOUTH, places[i] + kind.pace(step, seen));
            return WENT_ON;
        }

        void goStep() {
            for (int i = 0; i < count; i++) {
                advance(i, stepNumber);
            }
            stepNumber++;
        }

        void goStepByDraws() {
            if (count > 0) {
                int one = draw() % count;
                if (draw() % 100 < laws[LAMP]) {
                    faiths[one] = MOST_FAITH - faiths[one];
                }
            }
            goStep();
        }

        int draw() {
            z = z * 1103515245 + 12345;
            return z >>> 16;
        }

        /** One goes n steps without the others, whom it never touches; true: it is through then. */
        boolean goOnAlone(int i, int n) {
            for (int k = 0; k < n && !isThrough(i); k++) {
                advance(i, stepNumber + k);
            }
            return isThrough(i);
        }

        int passedBehind(int n) {
            int through = 0;
            for (int i = 0; i < count; i++) {
                if (goOnAlone(i, n)) {
                    through++;
                }
            }
            return through;
        }

        boolean goesBy(int i, int[] toldPlaces) {
            for (int k = 0; k < toldPlaces.length; k++) {
                advance(i, stepNumber + k);
                if (toldPlaces[k] != -1 && toldPlaces[k] != places[i]) {
                    return false;
                }
            }
            return true;
        }

        int partOfRow(int i, int part) {
            switch (part) {
                case 0: return places[i];
                case 1: return faiths[i];
                default: return throughSet();
            }
        }

        int throughSet() {
            int set = 0;
            for (int i = 0; i < count; i++) {
                if (isThrough(i)) {
                    set |= 1 << i;
                }
            }
            return set;
        }

        int seeingSet() {
            int set = 0;
            for (int i = 0; i < count; i++) {
                if (seesNow(i)) {
                    set |= 1 << i;
                }
            }
            return set;
        }

        int movedEver() {
            int ever = 0;
            for (int i = 0; i < count; i++) {
                if (moved[i] > 0) {
                    ever++;
                }
            }
            return ever;
        }

        int faithTogether() {
            int sum = 0;
            for (int i = 0; i < count; i++) {
                sum += faiths[i];
            }
            return sum;
        }

        int placesTogether() {
            int sum = 0;
            for (int i = 0; i < count; i++) {
                sum += places[i];
            }
            return sum;
        }
    }

    /** The bytes of a text, and how far it has been read. */
    private static final class Tape {
        final byte[] bytes = new byte[MOST_BYTES];
        int size = 0;
        /** The word at hand: of which sort it is, and from where to where (without) it goes. */
        private int sort = END;
        private int start = 0;
        private int end = 0;

        boolean take(long eight, int n) {
            if (size + n > MOST_BYTES) {
                return false;
            }
            for (int i = 0; i < n; i++) {
                bytes[size + i] = (byte) (eight >>> 8 * i);
            }
            size += n;
            return true;
        }

        /** The tunnel becomes what the text tells: -1, or the place of the fault. */
        int readInto(Tunnel tunnel) {
            tunnel.clear();
            end = 0;
            readWord();
            // No sentence is shorter than a byte.
            for (int i = 0; i < MOST_BYTES && sort != END; i++) {
                if (!readSentence(tunnel)) {
                    return start;
                }
                readWord();
            }
            return -1;
        }

        /** Each reader of a sentence or number stops at the word where the fault is. */
        private boolean readSentence(Tunnel tunnel) {
            int kind = kindNamed();
            if (kind >= 0) {
                return readGoer(tunnel, kind);
            }
            if (isName("fog")) {
                return readRoster(tunnel.fogs);
            }
            if (isName("arms")) {
                return readRoster(tunnel.arms);
            }
            int law = lawNamed();
            return law >= 0 && readLaw(tunnel, law);
        }

        private boolean readGoer(Tunnel tunnel, int kind) {
            if (tunnel.count >= MOST_GOERS) {
                return false;
            }
            readWord();
            if (!isName("at")) {
                return false;
            }
            int place = readNumber(LAST_PLACE);
            if (place < 0) {
                return false;
            }
            readWord();
            int faith = FAITH_UNTOLD;
            if (isName("faith")) {
                faith = readNumber(MOST_FAITH);
                if (faith < 0) {
                    return false;
                }
                readWord();
            }
            if (!isSemicolon()) {
                return false;
            }
            tunnel.add(kind, faith, place);
            return true;
        }

        private boolean readRoster(int[] list) {
            int rest = readNumber(RESTS - 1);
            if (rest < 0) {
                return false;
            }
            readWord();
            if (!isName("is")) {
                return false;
            }
            int v = readNumber(MOST_IN_ROSTER);
            if (v < 0) {
                return false;
            }
            list[rest] = v;
            readWord();
            return isSemicolon();
        }

        private boolean readLaw(Tunnel tunnel, int law) {
            int v = readNumber(MOST_OF_LAW[law]);
            if (v < 0) {
                return false;
            }
            tunnel.laws[law] = v;
            readWord();
            return isSemicolon();
        }

        /** The next word as a number up to most; -1, if it is none such. */
        private int readNumber(int most) {
            readWord();
            if (sort != NUMBER || end - start > 3) {
                return -1;
            }
            int v = 0;
            for (int i = start; i < end; i++) {
                v = v * 10 + bytes[i] - '0';
            }
            return v > most ? -1 : v;
        }

        private void readWord() {
            start = end;
            while (start < size && bytes[start] == ' ') {
                start++;
            }
            if (start >= size) {
                sort = END;
                end = start;
                return;
            }
            sort = sortAt(start);
            end = start + 1;
            while (sort != SIGN && end < size && sortAt(end) == sort) {
                end++;
            }
        }

        private int sortAt(int i) {
            if (bytes[i] >= 'a' && bytes[i] <= 'z') {
                return NAME;
            }
            return bytes[i] >= '0' && bytes[i] <= '9' ? NUMBER : SIGN;
        }

        private boolean isSemicolon() {
            return sort == SIGN && bytes[start] == ';';
        }

        private boolean isName(String name) {
            if (sort != NAME || end - start != name.length()) {
                return false;
            }
            for (int i = 0; i < name.length(); i++) {
                if (bytes[start + i] != name.charAt(i)) {
                    return false;
                }
            }
            return true;
        }

        private int kindNamed() {
            if (isName("goer")) {
                return 0;
            }
            if (isName("driver")) {
                return 1;
            }
            if (isName("mourner")) {
                return 2;
            }
            if (isName("stoker")) {
                return 3;
            }
            if (isName("widow")) {
                return 4;
            }
            return isName("child") ? 5 : -1;
        }

        private int lawNamed() {
            if (isName("hum")) {
                return HUM;
            }
            if (isName("dread")) {
                return DREAD;
            }
            if (isName("love")) {
                return LOVE;
            }
            return isName("lamp") ? LAMP : -1;
        }
    }

    /** A sheet's row. What is put is an int, so that ints hold longs, too. */
    private static final class Items {
        final int sort;
        final int[] values;

        /** The caller has seen that n is 0 to MOST_ITEMS. */
        Items(int sort, int n) {
            this.sort = sort;
            this.values = new int[n];
        }

        int narrowed(int v) {
            if (sort == BYTES) {
                return (byte) v;
            }
            return sort == SHORTS ? (short) v : v;
        }
    }

    /** The thing whose act runs, and the bodies that have begun. */
    private static final class Acting {
        int number = 0;
        int place = 0;
        /** Something was parted by 0: no body begins any more, and no answer counts. */
        boolean isBroken = false;
        int began = 0;
        final int[] bodies = new int[MOST_BODIES];
    }

    /**
     * A goer, and what all kinds are above: each kind below tells only what it does
     * otherwise. The bodies of acts write their own number down, one by one, since a
     * method for it would make the calls go too deep.
     */
    private static class Kind {
        int sight(int fog, int arms, int hum) {
            return 8 + arms - fog;
        }

        int keen(int arms, int hum) {
            return 3;
        }

        int fears(int fog) {
            return 2;
        }

        int pace(int step, boolean sees) {
            return 1;
        }

        int actLooks(Acting one, int x) {
            if (one.began < MOST_BODIES) {
                one.bodies[one.began++] = 10;
            }
            return x * 3 - one.number;
        }

        int actWalks(Acting one, int x) {
            if (one.began < MOST_BODIES) {
                one.bodies[one.began++] = 11;
            }
            return actLooks(one, x) + one.place * 6;
        }

        int actParts(Acting one, int x) {
            if (one.began < MOST_BODIES) {
                one.bodies[one.began++] = 12;
            }
            int by = one.place - one.number;
            if (by == 0) {
                one.isBroken = true;
                return 0;
            }
            return x / by;
        }

        int actComes(Acting one, int x) {
            if (one.began < MOST_BODIES) {
                one.bodies[one.began++] = 13;
            }
            return actWalks(one, x) ^ 200;
        }
    }

    private static class Driver extends Kind {
        int sight(int fog, int arms, int hum) {
            return super.sight(fog, arms, hum) + 4;
        }

        int keen(int arms, int hum) {
            return super.keen(arms, hum) + arms;
        }

        int fears(int fog) {
            return super.fears(fog) - 3;
        }

        int pace(int step, boolean sees) {
            return super.pace(step, sees) + 2;
        }

        int actWalks(Acting one, int x) {
            if (one.began < MOST_BODIES) {
                one.bodies[one.began++] = 20;
            }
            return 0 - super.actWalks(one, x);
        }
    }

    private static final class Stoker extends Driver {
        int sight(int fog, int arms, int hum) {
            return super.sight(fog, arms, hum) - fog / 2;
        }

        int keen(int arms, int hum) {
            return super.keen(arms, hum) - 1;
        }

        int fears(int fog) {
            return super.fears(fog) + fog;
        }

        int pace(int step, boolean sees) {
            return super.pace(step, sees) - 1;
        }

        int actLooks(Acting one, int x) {
            if (one.began < MOST_BODIES) {
                one.bodies[one.began++] = 51;
            }
            return super.actLooks(one, x) + 3;
        }

        int actParts(Acting one, int x) {
            if (one.began < MOST_BODIES) {
                one.bodies[one.began++] = 50;
            }
            return super.actParts(one, x + 4) * one.number;
        }
    }

    private static class Mourner extends Kind {
        int sight(int fog, int arms, int hum) {
            return super.sight(fog, arms, hum) - 2;
        }

        int keen(int arms, int hum) {
            return super.keen(arms, hum) * 2;
        }

        int fears(int fog) {
            return super.fears(fog) + 1;
        }

        int actLooks(Acting one, int x) {
            if (one.began < MOST_BODIES) {
                one.bodies[one.began++] = 30;
            }
            return super.actLooks(one, x) * 2;
        }

        int actComes(Acting one, int x) {
            if (one.began < MOST_BODIES) {
                one.bodies[one.began++] = 31;
            }
            return super.actComes(one, x) + actParts(one, one.number);
        }
    }

    private static final class Widow extends Mourner {
        int sight(int fog, int arms, int hum) {
            return super.sight(fog, arms, hum) + hum;
        }

        int keen(int arms, int hum) {
            return super.keen(arms, hum) + 2;
        }

        int fears(int fog) {
            return super.fears(fog) * 2;
        }

        int pace(int step, boolean sees) {
            return step % 2 == 0 ? super.pace(step, sees) : 0;
        }

        int actLooks(Acting one, int x) {
            if (one.began < MOST_BODIES) {
                one.bodies[one.began++] = 40;
            }
            return super.actLooks(one, x) ^ 9;
        }

        int actWalks(Acting one, int x) {
            if (one.began < MOST_BODIES) {
                one.bodies[one.began++] = 41;
            }
            return super.actWalks(one, x) - actLooks(one, one.place);
        }
    }

    private static final class Child extends Kind {
        int sight(int fog, int arms, int hum) {
            return hum * 2;
        }

        int keen(int arms, int hum) {
            return super.keen(arms, hum) + hum;
        }

        int fears(int fog) {
            return super.fears(fog) + 3;
        }

        int pace(int step, boolean sees) {
            return super.pace(step, sees) + (sees ? 1 : 0);
        }

        int actParts(Acting one, int x) {
            if (one.began < MOST_BODIES) {
                one.bodies[one.began++] = 61;
            }
            int parted = super.actParts(one, x);
            return one.isBroken ? 0 : parted + actLooks(one, one.number);
        }

        int actComes(Acting one, int x) {
            if (one.began < MOST_BODIES) {
                one.bodies[one.began++] = 60;
            }
            return super.actComes(one, x) - 8;
        }
    }
}
