import java.math.BigInteger;
import java.util.ArrayList;
import java.util.List;
import java.util.regex.Matcher;
import java.util.regex.Pattern;

/**
 * The document once more, written another way than LightMan (tables and formulas
 * written out, a new world for each trial, the machine's own exceptions), so that
 * the two can be held against each other in random runs.
 */
final class Model {
    static final int BAD = -1, FULL = -2, NONE = -3;
    private static final List<String> KIND_NAMES = List.of("goer", "driver", "mourner", "stoker", "widow", "child");
    private static final List<String> LAW_NAMES = List.of("hum", "dread", "love", "lamp");
    private static final int[] ABOVE = {-1, 0, 0, 1, 2, 0};

    private static final class Man {
        int kind, faith, place, moved;

        Man(int kind, int faith, int place, int moved) {
            this.kind = kind;
            this.faith = faith;
            this.place = place;
            this.moved = moved;
        }
    }

    private static final class World {
        int[] laws = {3, 10, 90, 20};
        int[][] roster = {{2, 4}, {2, 4}, {2, 4}, {2, 4}, {2, 4}, {2, 4}};
        List<Man> men = new ArrayList<>();
        int step = 0;
        int z = 1;
        String[] deeds = new String[8];

        World copy() {
            World w = new World();
            w.laws = laws.clone();
            for (int i = 0; i < 6; i++) {
                w.roster[i] = roster[i].clone();
            }
            for (Man m : men) {
                w.men.add(new Man(m.kind, m.faith, m.place, m.moved));
            }
            w.step = step;
            w.z = z;
            return w;
        }

        int[] ways(Man m) {
            int f = roster[step % 6][0], a = roster[step % 6][1], h = laws[0];
            int[] sight = {8 + a - f, 12 + a - f, 6 + a - f, 12 + a - f - f / 2, 6 + a - f + h, h + h};
            int[] keen = {3, 3 + a, 6, 2 + a, 8, 3 + h};
            int[] fears = {2, -1, 3, f - 1, 6, 5};
            boolean sees = 12 - m.place <= sight[m.kind];
            int[] pace = {1, 3, 1, 2, 1 - step % 2, sees ? 2 : 1};
            return new int[] {sight[m.kind], keen[m.kind], fears[m.kind], pace[m.kind]};
        }

        boolean sees(Man m) {
            return m.place < 12 && 12 - m.place <= ways(m)[0];
        }

        World go(int n) {
            for (int i = 0; i < n; i++) {
                for (int k = 0; k < men.size(); k++) {
                    deeds[k] = goOne(men.get(k));
                }
                step++;
            }
            return this;
        }

        private String goOne(Man m) {
            if (m.place == 12) {
                return "through";
            }
            int[] w = ways(m);
            boolean sees = sees(m);
            int faith = sees ? m.faith + w[1] : m.faith - w[2];
            m.faith = faith < 0 ? 0 : faith > 99 ? 99 : faith;
            if (sees && m.moved < 9999) {
                m.moved++;
            }
            if (m.faith < laws[1]) {
                m.place = m.place == 0 ? 0 : m.place - 1;
                return "back";
            }
            if (m.faith > laws[2]) {
                return "sits";
            }
            m.place = m.place + w[3] > 12 ? 12 : m.place + w[3];
            return "on";
        }

        World goByDraws() {
            if (!men.isEmpty()) {
                Man one = men.get(draw() % men.size());
                if (draw() % 100 < laws[3]) {
                    one.faith = 99 - one.faith;
                }
            }
            return go(1);
        }

        private int draw() {
            z = z * 1103515245 + 12345;
            return z >>> 16;
        }

        int through() {
            return (int) men.stream().filter(m -> m.place == 12).count();
        }

        int throughSet() {
            int set = 0;
            for (int i = 0; i < men.size(); i++) {
                set += men.get(i).place == 12 ? 1 << i : 0;
            }
            return set;
        }

        int places() {
            return men.stream().mapToInt(m -> m.place).sum();
        }
    }

    private World world = new World();
    private World kept = null;
    private final StringBuilder tape = new StringBuilder();
    private List<int[]> rows = new ArrayList<>();
    private final Object[] sheets = new Object[4];
    private final Object[] shelves = new Object[4];
    private final List<Integer> bodies = new ArrayList<>();

    private boolean no(int goer) {
        return goer < 0 || goer >= world.men.size();
    }

    private static boolean not(int v, int least, int most) {
        return v < least || v > most;
    }

    private Man man(int goer) {
        return world.men.get(goer);
    }

    public int feed(long eight, int n) {
        if (not(n, 1, 8)) {
            return BAD;
        }
        if (tape.length() + n > 200) {
            return FULL;
        }
        for (int i = 0; i < n; i++) {
            tape.append((char) (eight >> 8 * i & 255));
        }
        return tape.length();
    }

    // A text as a list of words; each rule takes words from its head, or throws its fault.

    private static final class Fault extends Exception {
        private static final long serialVersionUID = 1;
        final int place;

        Fault(int place) {
            this.place = place;
        }
    }

    private static final class Words {
        final List<String> words = new ArrayList<>();
        final List<Integer> starts = new ArrayList<>();
        int at = 0;

        Words(String text) {
            Matcher m = Pattern.compile("[a-z]+|[0-9]+|[^ ]", Pattern.DOTALL).matcher(text);
            while (m.find()) {
                words.add(m.group());
                starts.add(m.start());
            }
            words.add("");
            starts.add(text.length());
        }

        String head() {
            return words.get(at);
        }

        Fault fault() {
            return new Fault(starts.get(at));
        }

        void must(String word) throws Fault {
            if (!head().equals(word)) {
                throw fault();
            }
            at++;
        }

        int number(int most) throws Fault {
            if (!head().matches("[0-9]{1,3}") || Integer.parseInt(head()) > most) {
                throw fault();
            }
            return Integer.parseInt(words.get(at++));
        }
    }

    private static World told(String text) throws Fault {
        World w = new World();
        Words words = new Words(text);
        while (!words.head().isEmpty()) {
            String head = words.head();
            if (KIND_NAMES.contains(head)) {
                if (w.men.size() == 8) {
                    throw words.fault();
                }
                words.at++;
                words.must("at");
                int place = words.number(11);
                int faith = 50;
                if (words.head().equals("faith")) {
                    words.at++;
                    faith = words.number(99);
                }
                w.men.add(new Man(KIND_NAMES.indexOf(head), faith, place, 0));
            } else if (head.equals("fog") || head.equals("arms")) {
                words.at++;
                int rest = words.number(5);
                words.must("is");
                w.roster[rest][head.equals("fog") ? 0 : 1] = words.number(9);
            } else if (LAW_NAMES.contains(head)) {
                words.at++;
                w.laws[LAW_NAMES.indexOf(head)] = words.number(head.equals("hum") ? 9 : 99);
            } else {
                throw words.fault();
            }
            words.must(";");
        }
        return w;
    }

    public int tunnel() {
        String text = tape.toString();
        tape.setLength(0);
        try {
            World w = told(text);
            w.z = world.z;
            world = w;
            rows = new ArrayList<>();
            return w.men.size();
        } catch (Fault f) {
            return -100 - f.place;
        }
    }

    public int set(int law, int v) {
        if (not(law, 0, 3) || not(v, 0, law == 0 ? 9 : 99)) {
            return BAD;
        }
        int was = world.laws[law];
        world.laws[law] = v;
        return was;
    }

    public int lawOf(int law) {
        return not(law, 0, 3) ? BAD : world.laws[law];
    }

    public int roster(int rest, int what, int v) {
        if (not(rest, 0, 5) || not(what, 0, 1) || not(v, 0, 9)) {
            return BAD;
        }
        int was = world.roster[rest][what];
        world.roster[rest][what] = v;
        return was;
    }

    public int rosterOf(int rest, int what) {
        return not(rest, 0, 5) || not(what, 0, 1) ? BAD : world.roster[rest][what];
    }

    public int goer(int kind, int faith, int place) {
        if (not(kind, 0, 5) || not(faith, 0, 99) || not(place, 0, 11)) {
            return BAD;
        }
        if (world.men.size() == 8) {
            return FULL;
        }
        world.men.add(new Man(kind, faith, place, 0));
        return world.men.size() - 1;
    }

    public int of(int goer, int what) {
        if (no(goer) || not(what, 0, 4)) {
            return BAD;
        }
        Man m = man(goer);
        return new int[] {m.kind, m.faith, m.place, m.moved, world.sees(m) ? 1 : 0}[what];
    }

    public int does(int goer, int what) {
        if (no(goer) || not(what, 0, 3)) {
            return BAD;
        }
        return man(goer).place == 12 ? NONE : 1000 + world.ways(man(goer))[what];
    }

    public int mind(int goer, int kind) {
        if (no(goer) || not(kind, 0, 5)) {
            return BAD;
        }
        int was = man(goer).kind;
        man(goer).kind = kind;
        return was;
    }

    public int trust(int goer, int v) {
        if (no(goer) || not(v, 0, 99)) {
            return BAD;
        }
        int was = man(goer).faith;
        man(goer).faith = v;
        return was;
    }

    public int bring(int goer, int place) {
        if (no(goer) || not(place, 0, 12)) {
            return BAD;
        }
        int was = man(goer).place;
        man(goer).place = place;
        return was;
    }

    public int steps(int n) {
        return not(n, 1, 60) ? BAD : world.go(n).through();
    }

    public int seed(int v) {
        int was = world.z;
        world.z = v;
        return was;
    }

    public int step() {
        return world.goByDraws().through();
    }

    public int luck(int n) {
        if (not(n, 1, 30)) {
            return BAD;
        }
        int plain = world.copy().go(1).places();
        int z = world.z;
        int more = 0;
        for (int i = 0; i < n; i++) {
            World w = world.copy();
            w.z = z;
            w.goByDraws();
            z = w.z;
            more += w.places() > plain ? 1 : 0;
        }
        return more;
    }

    public int state(int what) {
        int seeing = 0;
        for (int i = 0; i < world.men.size(); i++) {
            seeing += world.sees(man(i)) ? 1 << i : 0;
        }
        switch (what) {
            case 0: return world.step;
            case 1: return world.throughSet();
            case 2: return seeing;
            case 3: return world.men.stream().mapToInt(m -> m.faith).sum();
            case 4: return world.places();
            case 5: return world.laws[2] < world.laws[1] ? 1 : 0;
            default: return BAD;
        }
    }

    public int where(int goer, int n) {
        return no(goer) || not(n, 0, 60) ? BAD : world.copy().go(n).men.get(goer).place;
    }

    private static int soonest(World from, int goer) {
        for (int n = 0; n <= 60; n++) {
            if (from.copy().go(n).men.get(goer).place == 12) {
                return n;
            }
        }
        return NONE;
    }

    public int comes(int goer) {
        return no(goer) ? BAD : soonest(world, goer);
    }

    private int firstDeed(int goer, String deed) {
        if (no(goer)) {
            return BAD;
        }
        World w = world.copy();
        for (int n = 1; n <= 60; n++) {
            if (w.go(1).deeds[goer].equals(deed)) {
                return n;
            }
        }
        return NONE;
    }

    public int sits(int goer) {
        return firstDeed(goer, "sits");
    }

    public int back(int goer) {
        return firstDeed(goer, "back");
    }

    public int passed(int n) {
        return not(n, 0, 60) ? BAD : world.copy().go(n).through();
    }

    public int armsFor(int rest, int n) {
        if (not(rest, 0, 5) || not(n, 1, 40)) {
            return BAD;
        }
        int[] through = new int[10];
        int most = 0;
        for (int a = 0; a < 10; a++) {
            World w = world.copy();
            w.roster[rest][1] = a;
            through[a] = w.go(n).through();
            most = Math.max(most, through[a]);
        }
        int a = 0;
        while (through[a] != most) {
            a++;
        }
        return a;
    }

    public int fogFor(int rest, int goer, int n) {
        if (not(rest, 0, 5) || no(goer) || not(n, 0, 40)) {
            return BAD;
        }
        int answer = NONE;
        for (int f = 0; f < 10; f++) {
            World w = world.copy();
            w.roster[rest][0] = f;
            if (w.go(n).men.get(goer).place == 12) {
                answer = f;
            }
        }
        return answer;
    }

    public int faithFor(int goer, int n) {
        if (no(goer) || not(n, 0, 40)) {
            return BAD;
        }
        for (int f = 0; f < 100; f++) {
            World w = world.copy();
            w.men.get(goer).faith = f;
            if (w.go(n).men.get(goer).place == 12) {
                return f;
            }
        }
        return NONE;
    }

    public int kindFor(int goer) {
        if (no(goer)) {
            return BAD;
        }
        int best = 0;
        int least = Integer.MAX_VALUE;
        for (int k = 0; k < 6; k++) {
            World w = world.copy();
            w.men.get(goer).kind = k;
            int n = soonest(w, goer);
            int late = n == NONE ? 1000 : n;
            if (late < least) {
                least = late;
                best = k;
            }
        }
        return best;
    }

    public int liftedFor(int n, int v) {
        if (not(n, 0, 40) || not(v, 0, 8)) {
            return BAD;
        }
        int best = NONE;
        for (int set = 63; set >= 0; set--) {
            World w = world.copy();
            for (int r = 0; r < 6; r++) {
                w.roster[r][1] = (set & 1 << r) != 0 ? 9 : 0;
            }
            boolean fewer = best == NONE || Integer.bitCount(set) <= Integer.bitCount(best);
            if (w.go(n).through() >= v && fewer) {
                best = set;
            }
        }
        return best;
    }

    private static int length(Object row) {
        return java.lang.reflect.Array.getLength(row);
    }

    private static int sort(Object row) {
        return row instanceof byte[] ? 0 : row instanceof short[] ? 1 : row instanceof int[] ? 2 : 3;
    }

    public int fits(int sheet, int goer, int what) {
        if (not(sheet, 0, 3) || no(goer) || not(what, 0, 1)) {
            return BAD;
        }
        if (sheets[sheet] == null) {
            return -11;
        }
        List<Integer> fitting = new ArrayList<>();
        for (int f = 0; f < 100; f++) {
            World w = world.copy();
            w.men.get(goer).faith = f;
            boolean fit = true;
            for (int i = 0; i < length(sheets[sheet]); i++) {
                long place = java.lang.reflect.Array.getLong(sheets[sheet], i);
                w.go(1);
                fit &= place == -1 || place == w.men.get(goer).place;
            }
            if (fit) {
                fitting.add(f);
            }
        }
        if (what == 0) {
            return fitting.size();
        }
        return fitting.isEmpty() ? NONE : fitting.get(0);
    }

    private static long part(BigInteger above, BigInteger below, int part) {
        BigInteger d = above.gcd(below);
        return (part == 0 ? above : below).divide(d).longValueExact();
    }

    public long odds(int n, int k, int part) {
        if (not(n, 0, 8) || not(k, 0, n) || not(part, 0, 1)) {
            return BAD;
        }
        // Each of the 2 by n ways to have n Sundays, one by one.
        BigInteger above = BigInteger.ZERO;
        for (int way = 0; way < 1 << n; way++) {
            if (Integer.bitCount(way) == k) {
                BigInteger lamps = BigInteger.valueOf(world.laws[3]).pow(k);
                above = above.add(lamps.multiply(BigInteger.valueOf(100 - world.laws[3]).pow(n - k)));
            }
        }
        return part(above, BigInteger.valueOf(100).pow(n), part);
    }

    public long hope(int n, int part) {
        if (not(n, 0, 99) || not(part, 0, 1)) {
            return BAD;
        }
        return part(BigInteger.valueOf(n * world.laws[3]), BigInteger.valueOf(100), part);
    }

    private List<int[]> rowsOf(int goer, int n) {
        List<int[]> list = new ArrayList<>();
        for (int i = 1; i <= n; i++) {
            World w = world.copy().go(i);
            list.add(new int[] {w.men.get(goer).place, w.men.get(goer).faith, w.throughSet()});
        }
        return list;
    }

    public int prove(int goer, int n) {
        if (no(goer) || not(n, 1, 10)) {
            return BAD;
        }
        rows = rowsOf(goer, n);
        return n;
    }

    public int row(int i, int what) {
        return not(i, 0, rows.size() - 1) || not(what, 0, 2) ? -9 : rows.get(i)[what];
    }

    public int alterRow(int i, int what, int v) {
        if (not(i, 0, rows.size() - 1) || not(what, 0, 2)) {
            return -9;
        }
        int was = rows.get(i)[what];
        rows.get(i)[what] = v;
        return was;
    }

    public int judge(int goer) {
        if (no(goer)) {
            return BAD;
        }
        List<int[]> right = rowsOf(goer, rows.size());
        for (int i = 0; i < rows.size(); i++) {
            if (!java.util.Arrays.equals(right.get(i), rows.get(i))) {
                return i + 1;
            }
        }
        return 0;
    }

    public int minds(int sheet, int i, int goer, int n) {
        if (not(sheet, 0, 3) || no(goer) || not(n, 0, 8) || goer + n > world.men.size()) {
            return BAD;
        }
        if (sheets[sheet] == null) {
            return -11;
        }
        if (!(sheets[sheet] instanceof byte[] row)) {
            return -13;
        }
        if (not(i, 0, row.length) || i + n > row.length) {
            return -12;
        }
        for (int k = 0; k < n; k++) {
            man(goer + k).faith = row[i + k] < 0 ? 0 : row[i + k] > 99 ? 99 : row[i + k];
        }
        return n;
    }

    public int sheet(int sheet, int sort, int n) {
        if (not(sheet, 0, 3) || not(sort, -1, 3) || sort != -1 && n > 40) {
            return BAD;
        }
        if (sort != -1 && n < 0) {
            return -14;
        }
        switch (sort) {
            case 0: sheets[sheet] = new byte[n]; break;
            case 1: sheets[sheet] = new short[n]; break;
            case 2: sheets[sheet] = new int[n]; break;
            case 3: sheets[sheet] = new long[n]; break;
            default: sheets[sheet] = null; break;
        }
        return 1;
    }

    public int put(int sheet, int i, int v) {
        if (not(sheet, 0, 3)) {
            return BAD;
        }
        Object row = sheets[sheet];
        if (row == null) {
            return -11;
        }
        try {
            switch (sort(row)) {
                case 0: ((byte[]) row)[i] = (byte) v; break;
                case 1: ((short[]) row)[i] = (short) v; break;
                case 2: ((int[]) row)[i] = v; break;
                default: ((long[]) row)[i] = v; break;
            }
            return 1;
        } catch (ArrayIndexOutOfBoundsException e) {
            return -12;
        }
    }

    public int item(int sheet, int sort, int i) {
        if (not(sheet, 0, 3) || not(sort, 0, 3)) {
            return BAD;
        }
        Object row = sheets[sheet];
        try {
            switch (sort) {
                case 0: return ((byte[]) row)[i];
                case 1: return ((short[]) row)[i];
                case 2: return ((int[]) row)[i];
                default: return (int) ((long[]) row)[i];
            }
        } catch (NullPointerException e) {
            return -11;
        } catch (ClassCastException e) {
            return -13;
        } catch (ArrayIndexOutOfBoundsException e) {
            return -12;
        }
    }

    public int shelf(int shelf, int what, int n) {
        if (not(shelf, 0, 3) || not(what, 0, 2) || what == 0 && no(n) || what == 1 && not(n, 0, 3)) {
            return BAD;
        }
        shelves[shelf] = what == 0 ? (Object) Integer.valueOf(n) : what == 1 ? sheets[n] : null;
        return 1;
    }

    private Object held(int shelf) {
        return shelves[shelf] instanceof Integer n && no(n) ? null : shelves[shelf];
    }

    public int taken(int shelf, int as) {
        if (not(shelf, 0, 3) || not(as, 0, 5) && not(as, 10, 13)) {
            return BAD;
        }
        Object held = held(shelf);
        if (held == null) {
            return -11;
        }
        if (held instanceof Integer n) {
            for (int k = man(n).kind; k >= 0; k = ABOVE[k]) {
                if (k == as) {
                    return n;
                }
            }
            return -13;
        }
        return sort(held) == as - 10 ? length(held) : -13;
    }

    // Acts: which body a kind has for an act; a body calls on the kind of the thing, or above its own.

    private static final int[][] BODY = {
        {10, 11, 12, 13}, {0, 20, 0, 0}, {30, 0, 0, 31}, {51, 0, 50, 0}, {40, 41, 0, 0}, {0, 0, 61, 60}};

    private int run(int from, int act, int x, int kind, int n, int a) {
        int owner = from;
        while (BODY[owner][act] == 0) {
            owner = ABOVE[owner];
        }
        int body = BODY[owner][act];
        int up = ABOVE[owner];
        if (bodies.size() < 30) {
            bodies.add(body);
        }
        switch (body) {
            case 10: return x * 3 - n;
            case 11: return run(kind, 0, x, kind, n, a) + a * 6;
            case 12: return x / (a - n);
            case 13: return run(kind, 1, x, kind, n, a) ^ 200;
            case 20: return 0 - run(up, 1, x, kind, n, a);
            case 30: return run(up, 0, x, kind, n, a) * 2;
            case 31: return run(up, 3, x, kind, n, a) + run(kind, 2, n, kind, n, a);
            case 40: return run(up, 0, x, kind, n, a) ^ 9;
            case 41: return run(up, 1, x, kind, n, a) - run(kind, 0, a, kind, n, a);
            case 50: return run(up, 2, x + 4, kind, n, a) * n;
            case 51: return run(up, 0, x, kind, n, a) + 3;
            case 60: return run(up, 3, x, kind, n, a) - 8;
            default: return run(up, 2, x, kind, n, a) + run(kind, 0, n, kind, n, a);
        }
    }

    public int act(int shelf, int act, int x) {
        bodies.clear();
        if (not(shelf, 0, 3) || not(act, 0, 3) || !(held(shelf) instanceof Integer n)) {
            return 0;
        }
        try {
            return run(man(n).kind, act, x, man(n).kind, n, man(n).place);
        } catch (ArithmeticException e) {
            return -15;
        }
    }

    public int trace(int i) {
        return not(i, 0, bodies.size() - 1) ? NONE : bodies.get(i);
    }

    public int many(int what) {
        switch (what) {
            case 0: return world.men.size();
            case 1: return world.through();
            case 2: return (int) world.men.stream().filter(world::sees).count();
            case 3: return (int) world.men.stream().filter(m -> m.moved > 0).count();
            case 4: return rows.size();
            case 5: return tape.length();
            case 6: return bodies.size();
            default: return BAD;
        }
    }

    public int keep() {
        kept = world.copy();
        return 1;
    }

    public int again() {
        if (kept == null) {
            return NONE;
        }
        world = kept.copy();
        return world.men.size();
    }
}
