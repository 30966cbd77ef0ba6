/** Promises 19 to 31: what is tried, and the odds of another lamp. */
public final class TriedTest {
    private static final int MIN = Integer.MIN_VALUE, MAX = Integer.MAX_VALUE;
    private static final Due DUE = new Due("TriedTest");

    /** Nothing that is tried may change what is. */
    private static void isUnchanged(LightMan man, int[] before) {
        int[] after = seen(man);
        for (int i = 0; i < before.length; i++) {
            DUE.is(before[i], after[i], "thing " + i + " that is as it was");
        }
    }

    private static int[] seen(LightMan man) {
        int[] all = new int[8 * 4 + 12 + 4];
        for (int i = 0; i < 32; i++) {
            all[i] = man.of(i / 4, i % 4);
        }
        for (int i = 0; i < 12; i++) {
            all[32 + i] = man.rosterOf(i / 2, i % 2);
        }
        all[44] = man.state(0);
        all[45] = man.seed(3);
        man.seed(all[45]);
        all[46] = man.many(4);
        all[47] = man.lawOf(1);
        return all;
    }

    private static void promise19() {
        DUE.about("promise 19");
        LightMan man = Make.with(0, 50, 0);
        for (int n = 0; n <= 60; n++) {
            DUE.is(Math.min(12, n), man.where(0, n), "where(0, " + n + ")");
        }
        for (int[] w : new int[][] {{-1, 0}, {1, 0}, {0, -1}, {0, 61}, {MIN, MIN}, {MAX, MAX}}) {
            DUE.is(-1, man.where(w[0], w[1]), "where(" + w[0] + ", " + w[1] + ")");
        }
        LightMan driver = Make.driverWithDread(57);
        DUE.is(0, driver.where(0, 56), "where(0, 56)");
        DUE.is(3, driver.where(0, 57), "where(0, 57)");
        DUE.is(9, driver.where(0, 59), "where(0, 59)");
        DUE.is(12, driver.where(0, 60), "where(0, 60)");
        // From an odd STEP a widow waits first.
        LightMan widow = Make.with(4, 30, 3);
        DUE.is(4, widow.where(0, 2), "where(0, 2) from an even STEP");
        widow.steps(1);
        widow.bring(0, 3);
        DUE.is(3, widow.where(0, 1), "where(0, 1) from an odd STEP");
        DUE.is(4, widow.where(0, 2), "where(0, 2) from an odd STEP");
    }

    private static void promise20() {
        DUE.about("promise 20");
        LightMan man = Make.with(0, 50, 0);
        DUE.is(12, man.comes(0), "comes(0)");
        man.trust(0, 64);
        DUE.is(12, man.comes(0), "comes(0) from 64");
        man.trust(0, 65);
        DUE.is(-3, man.comes(0), "comes(0) from 65, which sits at last");
        man.trust(0, 14);
        DUE.is(12, man.comes(0), "comes(0) from 14");
        man.trust(0, 13);
        DUE.is(-3, man.comes(0), "comes(0) from 13, which goes back");
        man.bring(0, 12);
        DUE.is(0, man.comes(0), "comes(0) through");
        LightMan later = Make.with(0, 14, 0);
        later.roster(4, 0, 9);
        DUE.is(12, later.comes(0), "comes(0) through a fog that does nothing");
        later.roster(4, 0, 2);
        later.roster(2, 0, 9);
        DUE.is(-3, later.comes(0), "comes(0) through a fog");
        DUE.is(3, later.back(0), "back(0) in a fog");
        DUE.is(60, Make.driverWithDread(57).comes(0), "comes(0), just by then");
        DUE.is(-3, Make.driverWithDread(58).comes(0), "comes(0), just not by then");
        for (int goer : new int[] {-1, 1, MIN, MAX}) {
            DUE.is(-1, man.comes(goer), "comes(" + goer + ")");
        }
    }

    private static void promise21() {
        DUE.about("promise 21");
        LightMan man = Make.with(0, 65, 0);
        DUE.is(12, man.sits(0), "sits(0)");
        man.trust(0, 64);
        DUE.is(-3, man.sits(0), "sits(0) of one that comes");
        man.bring(0, 5);
        man.trust(0, 88);
        DUE.is(1, man.sits(0), "sits(0) in this STEP");
        man.bring(0, 12);
        DUE.is(-3, man.sits(0), "sits(0) through");
        for (int dread = 60; dread < 62; dread++) {
            LightMan driver = Make.driverWithDread(dread);
            driver.set(2, 59);
            DUE.is(dread == 60 ? 60 : -3, driver.sits(0), "sits(0) with DREAD " + dread);
        }
        for (int goer : new int[] {-1, 1, MIN, MAX}) {
            DUE.is(-1, man.sits(goer), "sits(" + goer + ")");
        }
    }

    private static void promise22() {
        DUE.about("promise 22");
        LightMan man = Make.with(0, 11, 0);
        DUE.is(1, man.back(0), "back(0), which stays AT 0");
        man.trust(0, 13);
        DUE.is(2, man.back(0), "back(0)");
        man.trust(0, 14);
        DUE.is(-3, man.back(0), "back(0) of one that comes");
        man.trust(0, 0);
        man.bring(0, 12);
        DUE.is(-3, man.back(0), "back(0) through");
        // A stoker that sits in the fog with 1 less FAITH by each STEP.
        LightMan stoker = Make.with(3, 99, 0);
        Make.rosterAll(stoker, 2, 0);
        stoker.set(2, 0);
        stoker.set(1, 40);
        DUE.is(60, stoker.back(0), "back(0), just by then");
        stoker.set(1, 39);
        DUE.is(-3, stoker.back(0), "back(0), just not by then");
        for (int goer : new int[] {-1, 1, MIN, MAX}) {
            DUE.is(-1, man.back(goer), "back(" + goer + ")");
        }
    }

    private static void promise23() {
        DUE.about("promise 23");
        LightMan man = Make.with(0, 50, 11);
        man.goer(0, 50, 10);
        man.goer(1, 50, 0);
        man.goer(0, 99, 4);
        int[] want = {0, 1, 2, 2, 3, 3};
        for (int n = 0; n < want.length; n++) {
            DUE.is(want[n], man.passed(n), "passed(" + n + ")");
        }
        DUE.is(3, man.passed(60), "passed(60)");
        man.bring(3, 12);
        DUE.is(1, man.passed(0), "passed(0)");
        DUE.is(0, Make.driverWithDread(57).passed(59), "passed(59)");
        DUE.is(1, Make.driverWithDread(57).passed(60), "passed(60)");
        for (int n : new int[] {-1, 61, MIN, MAX}) {
            DUE.is(-1, man.passed(n), "passed(" + n + ")");
        }
    }

    private static void promise24() {
        DUE.about("promise 24");
        LightMan man = Make.with(0, 14, 0);
        DUE.is(4, man.armsFor(2, 12), "armsFor(2, 12)");
        DUE.is(0, man.armsFor(2, 11), "armsFor(2, 11), nobody is through by");
        DUE.is(0, man.armsFor(0, 12), "armsFor(0, 12)");
        // A driver that sits with ARMS above 3, a goer that goes back with ARMS below 2.
        LightMan two = Make.with(1, 84, 9);
        two.goer(0, 11, 11);
        two.roster(0, 0, 9);
        DUE.is(2, two.armsFor(0, 1), "armsFor(0, 1)");
        DUE.is(4, two.rosterOf(0, 1), "rosterOf(0, 1)");
        DUE.is(4, man.armsFor(2, 40), "armsFor(2, 40)");
        LightMan fog = Make.with(0, 11, 4);
        fog.roster(0, 0, 9);
        DUE.is(9, fog.armsFor(0, 8), "armsFor(0, 8) in a fog");
        for (int[] w : new int[][] {{-1, 1}, {6, 1}, {0, 0}, {0, 41}, {MIN, 1}, {0, MAX}}) {
            DUE.is(-1, man.armsFor(w[0], w[1]), "armsFor(" + w[0] + ", " + w[1] + ")");
        }
    }

    private static void promise25() {
        DUE.about("promise 25");
        LightMan man = Make.with(0, 14, 0);
        man.goer(0, 50, 0);
        DUE.is(2, man.fogFor(2, 0, 12), "fogFor(2, 0, 12)");
        DUE.is(2, man.fogFor(2, 0, 40), "fogFor(2, 0, 40)");
        DUE.is(9, man.fogFor(0, 0, 12), "fogFor(0, 0, 12)");
        DUE.is(-3, man.fogFor(2, 0, 11), "fogFor(2, 0, 11)");
        DUE.is(9, man.fogFor(2, 1, 12), "fogFor(2, 1, 12)");
        DUE.is(-3, man.fogFor(2, 1, 0), "fogFor(2, 1, 0)");
        man.bring(1, 12);
        DUE.is(9, man.fogFor(2, 1, 0), "fogFor(2, 1, 0) through");
        DUE.is(2, man.rosterOf(2, 0), "rosterOf(2, 0)");
        man.trust(0, 11);
        DUE.is(0, man.fogFor(0, 0, 12), "fogFor(0, 0, 12) from 11");
        man.set(1, 99);
        DUE.is(-3, man.fogFor(0, 0, 12), "fogFor(0, 0, 12) with DREAD 99");
        man.set(1, 0);
        DUE.is(9, man.fogFor(0, 0, 12), "fogFor(0, 0, 12) without DREAD");
        int[][] wrong = {{-1, 0, 1}, {6, 0, 1}, {0, -1, 1}, {0, 2, 1}, {0, 0, -1}, {0, 0, 41}, {MAX, MIN, MAX}};
        for (int[] w : wrong) {
            DUE.is(-1, man.fogFor(w[0], w[1], w[2]), "fogFor(" + w[0] + ", " + w[1] + ", " + w[2] + ")");
        }
    }

    private static void promise26() {
        DUE.about("promise 26");
        LightMan man = Make.with(0, 50, 0);
        DUE.is(14, man.faithFor(0, 12), "faithFor(0, 12)");
        DUE.is(14, man.faithFor(0, 40), "faithFor(0, 40)");
        DUE.is(-3, man.faithFor(0, 11), "faithFor(0, 11)");
        DUE.is(-3, man.faithFor(0, 0), "faithFor(0, 0)");
        DUE.is(50, man.of(0, 1), "of(0, 1)");
        man.bring(0, 12);
        DUE.is(0, man.faithFor(0, 0), "faithFor(0, 0) through");
        // Unseen by a goer AT 11: FAITH is 2 less, and DREAD 99 is not in reach.
        LightMan fog = Make.with(0, 5, 11);
        Make.rosterAll(fog, 9, 0);
        fog.set(1, 97);
        fog.set(2, 99);
        DUE.is(99, fog.faithFor(0, 1), "faithFor(0, 1) with DREAD 97");
        fog.set(1, 98);
        DUE.is(-3, fog.faithFor(0, 1), "faithFor(0, 1) with DREAD 98");
        for (int[] w : new int[][] {{-1, 1}, {1, 1}, {0, -1}, {0, 41}, {MIN, 1}, {0, MAX}}) {
            DUE.is(-1, man.faithFor(w[0], w[1]), "faithFor(" + w[0] + ", " + w[1] + ")");
        }
    }

    private static void promise27() {
        DUE.about("promise 27");
        LightMan man = Make.with(2, 50, 0);
        DUE.is(1, man.kindFor(0), "kindFor(0)");
        DUE.is(2, man.of(0, 0), "of(0, 0)");
        man.bring(0, 11);
        DUE.is(0, man.kindFor(0), "kindFor(0), all are as soon");
        // All but the child, which hears nothing, see him and sit.
        man.bring(0, 10);
        man.trust(0, 88);
        man.set(0, 0);
        DUE.is(5, man.kindFor(0), "kindFor(0) without HUM");
        man.bring(0, 12);
        DUE.is(0, man.kindFor(0), "kindFor(0) through");
        man.bring(0, 5);
        man.set(1, 99);
        man.set(2, 0);
        DUE.is(0, man.kindFor(0), "kindFor(0), none comes");
        for (int goer : new int[] {-1, 1, MIN, MAX}) {
            DUE.is(-1, man.kindFor(goer), "kindFor(" + goer + ")");
        }
    }

    private static LightMan inFogFromStep2(int faith) {
        LightMan man = new LightMan();
        man.steps(2);
        man.goer(0, faith, 5);
        Make.rosterAll(man, 9, 4);
        return man;
    }

    private static void promise28() {
        DUE.about("promise 28");
        LightMan man = Make.with(0, 14, 0);
        DUE.is(3, man.liftedFor(12, 1), "liftedFor(12, 1) from 14");
        man.trust(0, 21);
        DUE.is(1, man.liftedFor(12, 1), "liftedFor(12, 1) from 21");
        man.trust(0, 22);
        DUE.is(0, man.liftedFor(12, 1), "liftedFor(12, 1) from 22");
        DUE.is(-3, man.liftedFor(11, 1), "liftedFor(11, 1)");
        DUE.is(0, man.liftedFor(0, 0), "liftedFor(0, 0)");
        DUE.is(-3, man.liftedFor(40, 2), "liftedFor(40, 2) of one");
        DUE.is(-3, man.liftedFor(40, 8), "liftedFor(40, 8) of one");
        // From 18 rests 0 and 1 (3) do, and rest 2 alone (4), which comes twice; fewest stands before least.
        DUE.is(4, inFogFromStep2(18).liftedFor(7, 1), "liftedFor(7, 1) from 18");
        DUE.is(4, inFogFromStep2(17).liftedFor(7, 1), "liftedFor(7, 1) from 17");
        DUE.is(5, inFogFromStep2(16).liftedFor(7, 1), "liftedFor(7, 1) from 16");
        DUE.is(-3, inFogFromStep2(16).liftedFor(6, 1), "liftedFor(6, 1) from 16");
        // FAITH 3 more in each of six STEPS, till then back from 10 to 5: no rest can be spared.
        LightMan all = Make.with(0, 0, 10);
        Make.rosterAll(all, 9, 4);
        all.set(1, 18);
        DUE.is(63, all.liftedFor(12, 1), "liftedFor(12, 1) by all rests");
        // What suits the one makes the other sit.
        LightMan two = Make.with(1, 84, 9);
        two.goer(0, 11, 11);
        two.roster(0, 0, 9);
        DUE.is(0, two.liftedFor(1, 1), "liftedFor(1, 1)");
        DUE.is(-3, two.liftedFor(1, 2), "liftedFor(1, 2)");
        DUE.is(4, two.rosterOf(0, 1), "rosterOf(0, 1)");
        for (int[] w : new int[][] {{-1, 0}, {41, 0}, {0, -1}, {0, 9}, {MIN, 0}, {0, MAX}}) {
            DUE.is(-1, man.liftedFor(w[0], w[1]), "liftedFor(" + w[0] + ", " + w[1] + ")");
        }
    }

    private static void fit(LightMan man, int many, int least, int... places) {
        for (int sort = 0; sort < 4; sort++) {
            man.sheet(1, sort, places.length);
            for (int i = 0; i < places.length; i++) {
                man.put(1, i, places[i]);
            }
            String told = java.util.Arrays.toString(places) + " of sort " + sort;
            DUE.is(many, man.fits(1, 0, 0), "fits(1, 0, 0) by " + told);
            DUE.is(least, man.fits(1, 0, 1), "fits(1, 0, 1) by " + told);
        }
    }

    private static void promise29() {
        DUE.about("promise 29");
        // AT 5 he is seen: 0 to 6 go back, 88 to 99 sit, all others go on.
        LightMan man = Make.with(0, 50, 5);
        fit(man, 100, 0);
        fit(man, 81, 7, 6);
        fit(man, 7, 0, 4);
        fit(man, 12, 88, 5);
        fit(man, 100, 0, -1);
        fit(man, 0, -3, 7);
        fit(man, 0, -3, 13);
        fit(man, 0, -3, -2);
        fit(man, 75, 7, 6, -1, 8);
        fit(man, 3, 85, -1, 6);
        DUE.is(50, man.of(0, 1), "of(0, 1)");
        // Unseen in the third STEP: only the second has a bound from above then, 84.
        man.roster(2, 0, 9);
        man.roster(2, 1, 0);
        fit(man, 78, 7, 6, -1, 8);
        man.set(1, 99);
        fit(man, 0, -3, 6, -1, 8);
        man.bring(0, 12);
        fit(man, 100, 0, 12, 12);
        fit(man, 0, -3, 12, 11);
        int[][] wrong = {{-1, 0, 0}, {4, 0, 0}, {1, -1, 0}, {1, 1, 0}, {1, 0, -1}, {1, 0, 2}, {0, 0, 2}, {MIN, MAX, 0}};
        for (int[] w : wrong) {
            DUE.is(-1, man.fits(w[0], w[1], w[2]), "fits(" + w[0] + ", " + w[1] + ", " + w[2] + ")");
        }
        DUE.is(-11, man.fits(0, 0, 1), "fits(0, 0, 1) by a missing one");
    }

    private static void oddsAre(LightMan man, int n, int k, long above, long below) {
        DUE.is(above, man.odds(n, k, 0), "odds(" + n + ", " + k + ", 0)");
        DUE.is(below, man.odds(n, k, 1), "odds(" + n + ", " + k + ", 1)");
    }

    private static void promise30() {
        DUE.about("promise 30");
        LightMan man = new LightMan();
        oddsAre(man, 0, 0, 1, 1);
        oddsAre(man, 1, 0, 4, 5);
        oddsAre(man, 1, 1, 1, 5);
        oddsAre(man, 2, 1, 8, 25);
        oddsAre(man, 8, 0, 65536, 390625);
        man.set(3, 50);
        oddsAre(man, 8, 4, 35, 128);
        man.set(3, 99);
        oddsAre(man, 8, 0, 1, 10_000_000_000_000_000L);
        oddsAre(man, 8, 8, 9_227_446_944_279_201L, 10_000_000_000_000_000L);
        man.set(3, 0);
        oddsAre(man, 8, 0, 1, 1);
        oddsAre(man, 8, 1, 0, 1);
        int[][] wrong = {{-1, 0, 0}, {9, 0, 0}, {3, -1, 0}, {3, 4, 0}, {3, 3, -1}, {3, 3, 2}, {MAX, MAX, 0}, {MIN, MIN, 1}};
        for (int[] w : wrong) {
            DUE.is(-1, man.odds(w[0], w[1], w[2]), "odds(" + w[0] + ", " + w[1] + ", " + w[2] + ")");
        }
    }

    private static void hopeIs(LightMan man, int n, long above, long below) {
        DUE.is(above, man.hope(n, 0), "hope(" + n + ", 0)");
        DUE.is(below, man.hope(n, 1), "hope(" + n + ", 1)");
    }

    private static void promise31() {
        DUE.about("promise 31");
        LightMan man = new LightMan();
        hopeIs(man, 0, 0, 1);
        hopeIs(man, 3, 3, 5);
        hopeIs(man, 50, 10, 1);
        hopeIs(man, 99, 99, 5);
        man.set(3, 99);
        hopeIs(man, 99, 9801, 100);
        man.set(3, 0);
        hopeIs(man, 99, 0, 1);
        for (int[] w : new int[][] {{-1, 0}, {100, 0}, {5, -1}, {5, 2}, {MIN, 0}, {MAX, MAX}}) {
            DUE.is(-1, man.hope(w[0], w[1]), "hope(" + w[0] + ", " + w[1] + ")");
        }
    }

    private static void nothingChanges() {
        DUE.about("promises 19 to 31 change nothing");
        LightMan man = Make.with(0, 14, 0);
        man.goer(4, 60, 3);
        man.goer(5, 40, 7);
        man.steps(1);
        man.prove(1, 3);
        man.sheet(0, 2, 3);
        int[] before = seen(man);
        for (int goer = 0; goer < 3; goer++) {
            man.where(goer, 60);
            man.comes(goer);
            man.sits(goer);
            man.back(goer);
            man.fogFor(goer, goer, 20);
            man.faithFor(goer, 20);
            man.kindFor(goer);
            man.fits(0, goer, 0);
        }
        man.passed(60);
        man.armsFor(2, 30);
        man.liftedFor(30, 3);
        man.luck(9);
        man.odds(5, 2, 0);
        man.hope(5, 0);
        man.judge(1);
        isUnchanged(man, before);
    }

    public static void main(String[] args) {
        promise19();
        promise20();
        promise21();
        promise22();
        promise23();
        promise24();
        promise25();
        promise26();
        promise27();
        promise28();
        promise29();
        promise30();
        promise31();
        nothingChanges();
        DUE.end();
    }
}
