import java.util.Arrays;

/** Promises 32 to 46: rows of steps, sheets, shelves, acts, counts, and tunnels kept. */
public final class ThingsTest {
    private static final int MIN = Integer.MIN_VALUE, MAX = Integer.MAX_VALUE;
    private static final Due DUE = new Due("ThingsTest");

    /** A goer AT 10 and a driver AT 9, each with FAITH 50. */
    private static LightMan withTwo() {
        LightMan man = new LightMan();
        man.goer(0, 50, 10);
        man.goer(1, 50, 9);
        return man;
    }

    private static void promises32To35() {
        DUE.about("promises 32 to 35");
        LightMan man = withTwo();
        DUE.is(0, man.judge(0), "judge(0) without ROWS");
        DUE.is(-1, man.judge(2), "judge(2) without ROWS");
        DUE.is(3, man.prove(0, 3), "prove(0, 3)");
        int[][] want = {{11, 53, 2}, {12, 56, 3}, {12, 56, 3}};
        for (int i = 0; i < 3; i++) {
            for (int what = 0; what < 3; what++) {
                DUE.is(want[i][what], man.row(i, what), "row(" + i + ", " + what + ")");
            }
        }
        DUE.is(10, man.of(0, 2), "of(0, 2)");
        DUE.is(0, man.state(0), "state(0)");
        int[][] none = {{-1, 0}, {3, 0}, {0, -1}, {0, 3}, {9, 2}, {MIN, 0}, {MAX, 1}, {0, MAX}, {1, MIN}};
        for (int[] w : none) {
            DUE.is(-9, man.row(w[0], w[1]), "row(" + w[0] + ", " + w[1] + ")");
            DUE.is(-9, man.alterRow(w[0], w[1], 1), "alterRow(" + w[0] + ", " + w[1] + ", 1)");
        }
        DUE.is(0, man.judge(0), "judge(0)");
        DUE.is(1, man.judge(1), "judge(1)");
        DUE.is(-1, man.judge(-1), "judge(-1)");
        DUE.is(-1, man.judge(MAX), "judge of the most");
        promise34(man);
        for (int[] w : new int[][] {{-1, 1}, {2, 1}, {0, 0}, {0, 11}, {MIN, 1}, {0, MAX}, {0, MIN}}) {
            DUE.is(-1, man.prove(w[0], w[1]), "prove(" + w[0] + ", " + w[1] + ")");
        }
        DUE.is(3, man.many(4), "many(4)");
        DUE.is(10, man.prove(1, 10), "prove(1, 10)");
        DUE.is(57, man.row(9, 1), "row(9, 1)");
        DUE.is(1, man.prove(1, 1), "prove(1, 1)");
        DUE.is(-9, man.row(1, 1), "row(1, 1)");
        DUE.is(1, man.many(4), "many(4)");
        man.trust(1, 51);
        DUE.is(1, man.judge(1), "judge(1), which is not as it was");
        man.trust(1, 50);
        man.bring(0, 11);
        DUE.is(1, man.judge(1), "judge(1), another is through then");
    }

    private static void promise34(LightMan man) {
        for (int i = 2; i >= 0; i--) {
            for (int what = 2; what >= 0; what--) {
                int was = man.row(i, what);
                DUE.is(was, man.alterRow(i, what, MIN), "alterRow of " + i + ", " + what);
                DUE.is(MIN, man.row(i, what), "row(" + i + ", " + what + ")");
                DUE.is(i + 1, man.judge(0), "judge(0)");
                DUE.is(MIN, man.alterRow(i, what, was), "alterRow back");
                DUE.is(0, man.judge(0), "judge(0)");
            }
        }
        man.alterRow(2, 1, 5);
        man.alterRow(1, 1, 5);
        DUE.is(2, man.judge(0), "judge(0), the first that isn't right");
        man.prove(0, 3);
    }

    private static void promise36() {
        DUE.about("promise 36");
        LightMan man = withTwo();
        man.goer(5, 50, 0);
        man.sheet(0, 0, 4);
        int[] values = {99, 100, -1, 42};
        for (int i = 0; i < 4; i++) {
            man.put(0, i, values[i]);
        }
        man.sheet(1, 2, 4);
        DUE.is(3, man.minds(0, 1, 0, 3), "minds(0, 1, 0, 3)");
        int[] want = {99, 0, 42};
        for (int i = 0; i < 3; i++) {
            DUE.is(want[i], man.of(i, 1), "of(" + i + ", 1)");
        }
        DUE.is(1, man.minds(0, 0, 2, 1), "minds(0, 0, 2, 1)");
        DUE.is(99, man.of(2, 1), "of(2, 1)");
        DUE.is(0, man.of(1, 1), "of(1, 1)");
        DUE.is(0, man.minds(0, 4, 2, 0), "minds(0, 4, 2, 0)");
        int[][] wrong = {
            {-1, -1, 0, 0, 1}, {-1, 4, 0, 0, 1}, {-1, 0, 0, -1, 1}, {-1, 0, 0, 3, 0}, {-1, 0, 0, 0, -1},
            {-1, 0, 0, 0, 9}, {-1, 0, 0, 1, 3}, {-1, 0, 0, 0, 4}, {-1, 2, 0, 0, 4}, {-1, 0, 0, 2, MAX},
            {-1, 0, 0, MAX, 8}, {-11, 2, 9, 0, 1}, {-13, 1, 9, 0, 1}, {-12, 0, -1, 0, 0}, {-12, 0, 5, 0, 0},
            {-12, 0, 4, 0, 1}, {-12, 0, 2, 0, 3}, {-12, 0, MAX, 0, 1}, {-12, 0, MIN, 0, 1}};
        for (int[] w : wrong) {
            DUE.is(w[0], man.minds(w[1], w[2], w[3], w[4]), "minds of " + Arrays.toString(w));
        }
        man.sheet(0, 0, 0);
        DUE.is(0, man.minds(0, 0, 0, 0), "minds(0, 0, 0, 0) of no items");
        DUE.is(-12, man.minds(0, 0, 0, 1), "minds(0, 0, 0, 1) of no items");
        promise36Eight();
    }

    private static void promise36Eight() {
        LightMan man = new LightMan();
        man.sheet(3, 0, 8);
        for (int i = 0; i < 8; i++) {
            man.goer(0, 0, 0);
            man.put(3, i, 10 * i);
        }
        DUE.is(8, man.minds(3, 0, 0, 8), "minds(3, 0, 0, 8)");
        DUE.is(280, man.state(3), "state(3)");
        DUE.is(70, man.of(7, 1), "of(7, 1)");
    }

    private static void promise37() {
        DUE.about("promise 37");
        LightMan man = new LightMan();
        for (int sort = 0; sort < 4; sort++) {
            DUE.is(1, man.sheet(sort, sort, 40), "sheet(" + sort + ", " + sort + ", 40)");
            DUE.is(0, man.item(sort, sort, 39), "item(" + sort + ", " + sort + ", 39)");
            DUE.is(-12, man.item(sort, sort, 40), "item(" + sort + ", " + sort + ", 40)");
        }
        int[][] wrong = {
            {-1, -1, 0, 1}, {-1, 4, 0, 1}, {-1, 0, -2, 1}, {-1, 0, 4, 1}, {-1, 0, 0, 41}, {-1, 0, 0, MAX},
            {-1, 4, -1, 0}, {-1, 4, 0, -1}, {-1, 0, 4, -1}, {-14, 0, 0, -1}, {-14, 0, 3, MIN}};
        for (int[] w : wrong) {
            DUE.is(w[0], man.sheet(w[1], w[2], w[3]), "sheet of " + Arrays.toString(w));
        }
        DUE.is(0, man.item(0, 0, 39), "item(0, 0, 39)");
        man.put(0, 0, 5);
        DUE.is(1, man.sheet(0, 0, 1), "sheet(0, 0, 1)");
        DUE.is(0, man.item(0, 0, 0), "item(0, 0, 0), which is 0 again");
        for (int n : new int[] {0, 41, -1, MIN, MAX}) {
            man.sheet(0, 1, 3);
            DUE.is(1, man.sheet(0, -1, n), "sheet(0, -1, " + n + ")");
            DUE.is(-11, man.item(0, 1, 0), "item(0, 1, 0)");
        }
        DUE.is(1, man.sheet(0, 2, 0), "sheet(0, 2, 0)");
        DUE.is(-12, man.item(0, 2, 0), "item(0, 2, 0)");
    }

    private static void promises38And39() {
        DUE.about("promises 38, 39");
        LightMan man = new LightMan();
        int[] values = {0, -1, 127, 128, 200, 32767, 32768, 70000, -129, MAX, MIN};
        for (int sort = 0; sort < 4; sort++) {
            man.sheet(0, sort, 12);
            for (int i = 0; i < values.length; i++) {
                DUE.is(1, man.put(0, i, values[i]), "put(0, " + i + ", " + values[i] + ")");
            }
            for (int i = 0; i < values.length; i++) {
                int want = sort == 0 ? (byte) values[i] : sort == 1 ? (short) values[i] : values[i];
                DUE.is(want, man.item(0, sort, i), "item(0, " + sort + ", " + i + ")");
                DUE.is(-13, man.item(0, (sort + 1) % 4, i), "item of another sort");
            }
            DUE.is(0, man.item(0, sort, 11), "item(0, " + sort + ", 11)");
        }
        for (int[] w : new int[][] {{-1, -1, 0}, {-1, 4, 0}, {-1, MIN, 0}, {-11, 1, 0}, {-11, 1, -1},
                {-12, 0, -1}, {-12, 0, 12}, {-12, 0, MAX}, {-12, 0, MIN}}) {
            DUE.is(w[0], man.put(w[1], w[2], 1), "put of " + Arrays.toString(w));
        }
        for (int[] w : new int[][] {{-1, -1, 3, 0}, {-1, 4, 3, 0}, {-1, 0, -1, 0}, {-1, 0, 4, 0}, {-1, 1, 4, 0},
                {-11, 1, 0, 99}, {-13, 0, 2, 99}, {-12, 0, 3, -1}, {-12, 0, 3, 12}, {-12, 0, 3, MAX}}) {
            DUE.is(w[0], man.item(w[1], w[2], w[3]), "item of " + Arrays.toString(w));
        }
    }

    private static LightMan withAllKinds() {
        LightMan man = new LightMan();
        int[] places = {5, 5, 8, 7, 9, 7};
        for (int kind = 0; kind < 6; kind++) {
            man.goer(kind, 50, places[kind]);
        }
        return man;
    }

    private static void promises40And41() {
        DUE.about("promises 40, 41");
        LightMan man = withAllKinds();
        String[] takenFor = {"0", "01", "02", "013", "024", "05"};
        for (int kind = 0; kind < 6; kind++) {
            DUE.is(1, man.shelf(3, 0, kind), "shelf(3, 0, " + kind + ")");
            for (int as = 0; as < 6; as++) {
                boolean is = takenFor[kind].indexOf((char) ('0' + as)) >= 0;
                DUE.is(is ? kind : -13, man.taken(3, as), "taken(3, " + as + ") of kind " + kind);
            }
            for (int as = 10; as < 14; as++) {
                DUE.is(-13, man.taken(3, as), "taken(3, " + as + ") of kind " + kind);
            }
        }
        for (int sort = 0; sort < 4; sort++) {
            man.sheet(2, sort, 7);
            man.shelf(0, 1, 2);
            for (int as = 0; as < 14; as++) {
                int want = as > 5 && as < 10 ? -1 : as == 10 + sort ? 7 : -13;
                DUE.is(want, man.taken(0, as), "taken(0, " + as + ") of sort " + sort);
            }
        }
        DUE.is(-11, man.taken(1, 0), "taken(1, 0) of nothing");
        DUE.is(-11, man.taken(1, 13), "taken(1, 13) of nothing");
        for (int[] w : new int[][] {{-1, 0}, {4, 0}, {0, -1}, {0, 6}, {0, 9}, {0, 14}, {1, 6}, {MIN, 0}, {0, MAX}}) {
            DUE.is(-1, man.taken(w[0], w[1]), "taken(" + w[0] + ", " + w[1] + ")");
        }
        for (int[] w : new int[][] {{-1, 0, 0}, {4, 0, 0}, {0, -1, 0}, {0, 3, 0}, {0, 0, -1}, {0, 0, 6}, {0, 1, -1},
                {0, 1, 4}, {MIN, 2, 0}, {0, MAX, 0}, {0, 0, MAX}}) {
            DUE.is(-1, man.shelf(w[0], w[1], w[2]), "shelf of " + Arrays.toString(w));
        }
        DUE.is(7, man.taken(0, 13), "taken(0, 13), which is still held");
        DUE.is(1, man.shelf(0, 2, MIN), "shelf of nothing");
        DUE.is(-11, man.taken(0, 13), "taken(0, 13) of nothing");
        promise40Holds(man);
    }

    /** A shelf holds the row that the sheet was, and a goer by its number. */
    private static void promise40Holds(LightMan man) {
        man.sheet(2, 3, 5);
        man.shelf(0, 1, 2);
        man.sheet(2, 0, 9);
        DUE.is(5, man.taken(0, 13), "taken(0, 13) of the row that was");
        man.sheet(2, -1, 0);
        DUE.is(5, man.taken(0, 13), "taken(0, 13) of a row whose sheet is missing");
        DUE.is(1, man.shelf(0, 1, 2), "shelf(0, 1, 2) of a missing one");
        DUE.is(-11, man.taken(0, 13), "taken(0, 13) of nothing");
        man.sheet(2, 3, 5);
        DUE.is(-11, man.taken(0, 13), "taken(0, 13), still nothing");
        man.shelf(0, 0, 5);
        man.mind(5, 3);
        DUE.is(5, man.taken(0, 1), "taken(0, 1) of one that is a stoker now");
        Due.tell(man, "goer at 1; goer at 2;");
        DUE.is(-11, man.taken(0, 0), "taken(0, 0) of one that is gone");
        DUE.is(0, man.act(0, 0, 1), "act(0, 0, 1) of one that is gone");
        for (int i = 0; i < 4; i++) {
            man.goer(2, 50, 3);
        }
        DUE.is(5, man.taken(0, 2), "taken(0, 2) of another of that number");
    }

    private static void acts(LightMan man, int goer, int act, int x, int want, int... bodies) {
        String call = "act " + act + " of goer " + goer + " with " + x;
        man.shelf(1, 0, goer);
        DUE.is(want, man.act(1, act, x), call);
        DUE.is(bodies.length, man.many(6), "bodies of " + call);
        for (int i = 0; i < bodies.length; i++) {
            DUE.is(bodies[i], man.trace(i), "body " + i + " of " + call);
        }
        DUE.is(-3, man.trace(bodies.length), "body behind the last of " + call);
    }

    private static void promises42And43() {
        DUE.about("promises 42, 43");
        LightMan man = withAllKinds();
        acts(man, 0, 0, 10, 30, 10);
        acts(man, 0, 1, 10, 60, 11, 10);
        acts(man, 0, 2, 10, 2, 12);
        acts(man, 0, 3, 10, 244, 13, 11, 10);
        acts(man, 1, 0, 10, 29, 10);
        acts(man, 1, 1, 10, -59, 20, 11, 10);
        acts(man, 1, 2, 10, 2, 12);
        acts(man, 1, 3, 10, -243, 13, 20, 11, 10);
        acts(man, 2, 0, 10, 56, 30, 10);
        acts(man, 2, 1, 10, 104, 11, 30, 10);
        acts(man, 2, 2, 10, 1, 12);
        acts(man, 2, 3, 10, 160, 31, 13, 11, 30, 10, 12);
        acts(man, 3, 0, 10, 30, 51, 10);
        acts(man, 3, 1, 10, -72, 20, 11, 51, 10);
        acts(man, 3, 2, 10, 9, 50, 12);
        acts(man, 3, 3, 10, -144, 13, 20, 11, 51, 10);
        acts(man, 4, 0, 10, 61, 40, 30, 10);
        acts(man, 4, 1, 10, 76, 41, 11, 40, 30, 10, 40, 30, 10);
        acts(man, 4, 2, 10, 2, 12);
        acts(man, 4, 3, 10, 132, 31, 13, 41, 11, 40, 30, 10, 40, 30, 10, 12);
        acts(man, 5, 0, 10, 25, 10);
        acts(man, 5, 1, 10, 67, 11, 10);
        acts(man, 5, 2, 10, 15, 61, 12, 10);
        acts(man, 5, 3, 10, 131, 60, 13, 11, 10);
        DUE.is(-3, man.trace(-1), "trace(-1)");
        DUE.is(-3, man.trace(MIN), "trace of the least");
        DUE.is(-3, man.trace(MAX), "trace of the most");
        promise42Edges(man);
        promise42Nothing(man);
    }

    private static void promise42Edges(LightMan man) {
        acts(man, 0, 2, -9, -1, 12);
        acts(man, 0, 0, MAX, 2147483645, 10);
        man.bring(0, 12);
        acts(man, 0, 1, 0, 72, 11, 10);
        man.bring(1, 0);
        acts(man, 1, 2, MIN, MIN, 12);
        acts(man, 3, 2, 0, 3, 50, 12);
        acts(man, 3, 2, -1, 0, 50, 12);
        man.bring(2, 3);
        acts(man, 2, 3, 10, 132, 31, 13, 11, 30, 10, 12);
        acts(man, 3, 2, MAX, (MIN + 3) / 4 * 3, 50, 12);
        for (int goer = 0; goer < 6; goer++) {
            man.bring(goer, goer);
        }
        acts(man, 0, 2, 7, -15, 12);
        acts(man, 2, 3, 10, -15, 31, 13, 11, 30, 10, 12);
        acts(man, 3, 2, 7, -15, 50, 12);
        acts(man, 4, 3, 10, -15, 31, 13, 41, 11, 40, 30, 10, 40, 30, 10, 12);
        acts(man, 5, 2, 7, -15, 61, 12);
        acts(man, 5, 0, 10, 25, 10);
        acts(man, 5, 3, 1, (3 - 5 + 30 ^ 200) - 8, 60, 13, 11, 10);
    }

    private static void promise42Nothing(LightMan man) {
        man.sheet(0, 2, 5);
        man.shelf(1, 0, 0);
        man.shelf(2, 1, 0);
        int[][] none = {{-1, 0}, {4, 0}, {1, -1}, {1, 4}, {0, 0}, {2, 0}, {MIN, 0}, {1, MAX}};
        for (int[] w : none) {
            man.act(1, 1, 10);
            DUE.is(2, man.many(6), "many(6)");
            DUE.is(0, man.act(w[0], w[1], 10), "act(" + w[0] + ", " + w[1] + ", 10)");
            DUE.is(0, man.many(6), "many(6) behind act(" + w[0] + ", " + w[1] + ", 10)");
            DUE.is(-3, man.trace(0), "trace(0)");
        }
    }

    private static void promise44() {
        DUE.about("promise 44");
        LightMan man = withTwo();
        man.goer(0, 50, 0);
        man.goer(5, 50, 3);
        int[] first = {4, 0, 2, 0, 0, 0, 0};
        for (int what = 0; what < 7; what++) {
            DUE.is(first[what], man.many(what), "many(" + what + ")");
        }
        man.steps(1);
        man.prove(0, 6);
        man.feed(0, 5);
        man.shelf(0, 0, 0);
        man.act(0, 3, 1);
        int[] then = {4, 1, 1, 2, 6, 5, 3};
        for (int what = 0; what < 7; what++) {
            DUE.is(then[what], man.many(what), "many(" + what + ") then");
        }
        for (int what : new int[] {-1, 7, MIN, MAX}) {
            DUE.is(-1, man.many(what), "many(" + what + ")");
        }
    }

    private static void promises45And46() {
        DUE.about("promises 45, 46");
        LightMan man = withTwo();
        DUE.is(-3, man.again(), "again(), nothing is kept");
        man.set(2, 80);
        man.roster(4, 0, 7);
        man.roster(4, 1, 6);
        man.steps(1);
        man.seed(99);
        DUE.is(1, man.keep(), "keep()");
        man.goer(5, 40, 3);
        man.steps(3);
        man.mind(0, 4);
        man.set(2, 70);
        man.roster(4, 0, 1);
        man.roster(4, 1, 1);
        man.seed(98);
        man.prove(2, 4);
        man.feed(0, 3);
        man.sheet(1, 1, 2);
        man.shelf(0, 0, 2);
        man.act(0, 1, 1);
        for (int i = 0; i < 2; i++) {
            DUE.is(2, man.again(), "again()");
            int[] goer = {0, 53, 11, 1, 1};
            for (int what = 0; what < 5; what++) {
                DUE.is(goer[what], man.of(0, what), "of(0, " + what + ")");
            }
            DUE.is(12, man.of(1, 2), "of(1, 2)");
            DUE.is(-1, man.of(2, 0), "of(2, 0)");
            DUE.is(1, man.state(0), "state(0)");
            DUE.is(80, man.lawOf(2), "lawOf(2)");
            DUE.is(7, man.rosterOf(4, 0), "rosterOf(4, 0)");
            DUE.is(6, man.rosterOf(4, 1), "rosterOf(4, 1)");
            DUE.is(99, man.seed(5), "seed(5)");
            DUE.is(4, man.many(4), "many(4), which stay");
            DUE.is(3, man.many(5), "many(5), which stay");
            DUE.is(2, man.many(6), "many(6), which stay");
            DUE.is(0, man.item(1, 1, 1), "item(1, 1, 1), which stays");
            DUE.is(-11, man.taken(0, 0), "taken(0, 0), which is gone");
            man.bring(0, 4);
            man.steps(9);
        }
        man.goer(1, 1, 1);
        man.keep();
        man.tunnel();
        DUE.is(3, man.again(), "again() of what was kept latest");
        DUE.is(2, man.taken(0, 1), "taken(0, 1), which has come again");
    }

    public static void main(String[] args) {
        promises32To35();
        promise36();
        promise37();
        promises38And39();
        promises40And41();
        promises42And43();
        promise44();
        promises45And46();
        DUE.end();
    }
}
