import java.util.Arrays;

/** Boundary cases of what is tried, and of the odds: the second part of the terms, promises 19 to 31. */
final class TriedEdges {
    private static final Due DUE = Edges.DUE;

    private TriedEdges() {
    }

    @Edge(says = "What is asked here is TRIED; nothing changes.")
    static void nothingThatIsTriedChangesAnything() {
        Edges.changesNothing(Make::rich, "where(0, 60)", "where(4, 0)", "comes(1)", "comes(4)", "passed(60)",
            "armsFor(2, 40)", "fogFor(1, 1, 40)", "faithFor(1, 40)", "kindFor(0)", "kindFor(4)", "liftedFor(40, 2)",
            "fits(0, 2, 0)", "fits(3, 3, 0)", "odds(8, 4, 0)", "hope(99, 1)", "luck(30)", "judge(2)", "state(5)");
        Edges.changesNothing(() -> Make.with(0, 65, 0), "sits(0)");
        Edges.changesNothing(() -> Make.with(0, 13, 0), "back(0)");
    }

    // ---- where, comes, sits, back, passed

    @Edge(promise = 19, says = "WHERE of one by n (0 to 60).")
    static void whereByNoStepsAndByTheMost() {
        Edges.run(Make.with(0, 50, 3), "where(0, -1) = -1\n where(0, 0) = 3\n where(0, 1) = 4\n where(0, 61) = -1");
        Edges.run(Make.driverWithDread(57), """
            where(0, 57) = 3
            where(0, 58) = 6
            where(0, 59) = 9
            where(0, 60) = 12
            """);
        Edges.run(Make.driverWithDread(60), "where(0, 59) = 0\n where(0, 60) = 3");
    }

    @Edge(says = "its PLACE behind n STEPS (12: THROUGH)")
    static void whereOfOneThrough() {
        Edges.run("""
            goer(1, 50, 10)
            where(0, 1) = 12
            where(0, 60) = 12
            bring(0, 12)
            where(0, 0) = 12
            where(0, 60) = 12
            """);
    }

    @Edge(says = "behind the fewest STEPS (0 to 60) it is THROUGH first")
    static void comesAtOnceAndJustByThen() {
        Edges.run("goer(0, 0, 0)\n bring(0, 12)\n comes(0) = 0");
        Edges.run(Make.with(0, 50, 11), "comes(0) = 1");
        Edges.run(Make.driverWithDread(56), "comes(0) = 59");
        Edges.run(Make.driverWithDread(57), "comes(0) = 60");
    }

    @Edge(promise = 20, says = "NONE: not by then.")
    static void comesJustNotByThen() {
        Edges.run(Make.driverWithDread(58), "comes(0) = -3\n steps(1)\n comes(0) = 60");
        Edges.run("goer(0, 99, 5)\n comes(0) = -3\n set(2, 99)\n comes(0) = 7");
    }

    /** AT 0 with FAITH 0, it sits in the STEP that makes its FAITH that much. */
    private static LightMan sitsInStep(int step) {
        LightMan man = Make.driverWithDread(step);
        man.set(2, step - 1);
        return man;
    }

    @Edge(says = "in the first STEP from now on (1: this one; to 60) in which it SITS")
    static void sitsInThisStepAndInTheLast() {
        Edges.run(Make.with(0, 88, 5), "sits(0) = 1");
        Edges.run(Make.with(0, 87, 5), "sits(0) = 2");
        Edges.run(sitsInStep(60), "sits(0) = 60\n steps(59)\n sits(0) = 1");
    }

    @Edge(promise = 21, says = "NONE: not by then.")
    static void sitsJustNotByThen() {
        Edges.run(sitsInStep(61), "sits(0) = -3\n steps(1)\n sits(0) = 60");
        Edges.run("goer(0, 99, 5)\n sits(0) = 1\n bring(0, 12)\n sits(0) = -3");
        // At LOVE it doesn't sit; below DREAD it goes back first.
        Edges.run("""
            goer(0, 99, 11)
            set(2, 99)
            sits(0) = -3
            set(1, 99)
            set(2, 0)
            roster(0, 0, 9)
            roster(0, 1, 0)
            sits(0) = 2
            """);
    }

    /** AT 0 with FAITH 99 it sits, with 1 less FAITH by each STEP, till that is below DREAD. */
    private static LightMan backBelow(int dread) {
        LightMan man = Make.with(3, 99, 0);
        Make.rosterAll(man, 2, 0);
        man.set(2, 0);
        man.set(1, dread);
        return man;
    }

    @Edge(says = "in the first one in which it goes back, or stays AT 0 by that (1 to 60)")
    static void goesBackInThisStepAndInTheLast() {
        Edges.run(Make.with(0, 0, 5), "back(0) = 1");
        Edges.run(Make.with(0, 11, 0), "back(0) = 1");
        Edges.run(Make.with(0, 13, 0), "back(0) = 2");
        Edges.run(backBelow(40), "back(0) = 60\n steps(59)\n back(0) = 1");
        Edges.run(backBelow(41), "back(0) = 59");
    }

    @Edge(promise = 22, says = "NONE: not by then.")
    static void goesBackJustNotByThen() {
        Edges.run(backBelow(39), "back(0) = -3\n steps(1)\n back(0) = 60");
        Edges.run("goer(0, 0, 5)\n back(0) = 1\n bring(0, 12)\n back(0) = -3\n bring(0, 5)\n set(1, 0)\n back(0) = -3");
    }

    @Edge(promise = 23, says = "PASSED by n (0 to 60).")
    static void passedByNoStepsAndByTheMost() {
        Edges.run("passed(0) = 0\n passed(60) = 0\n passed(-1) = -1\n passed(61) = -1");
        Edges.run(Make.driverWithDread(57), """
            passed(0) = 0
            passed(59) = 0
            passed(60) = 1
            bring(0, 12)
            passed(0) = 1
            """);
        LightMan man = new LightMan();
        for (int i = 0; i < 8; i++) {
            man.goer(0, 50, 11);
        }
        Edges.run(man, "passed(0) = 0\n passed(1) = 8\n bring(7, 12)\n passed(0) = 1");
    }

    /** From STEP 5, the next one's rest being 0 again, in whose fog he isn't seen. */
    private static LightMan intoFog(int faith, int place) {
        LightMan man = new LightMan();
        man.steps(5);
        man.goer(0, faith, place);
        man.roster(0, 0, 9);
        man.roster(0, 1, 0);
        return man;
    }

    @Edge(says = "for each rest 0 to 5 of STEP by 6")
    static void whatIsTriedGoesOnFromTheLastRestToTheFirst() {
        // FAITH 11, then 9, by which it goes back, then 12 and 15.
        Edges.run(intoFog(8, 10), """
            back(0) = 2
            comes(0) = 4
            where(0, 1) = 11
            where(0, 2) = 10
            where(0, 3) = 11
            passed(3) = 0
            passed(4) = 1
            faithFor(0, 2) = 9
            fogFor(0, 0, 2) = 7
            armsFor(0, 2) = 2
            prove(0, 2)
            row(1, 0) = 10
            row(1, 1) = 9
            judge(0) = 0
            """);
        fit(intoFog(8, 10), 2, 7, 11, 10);
        // FAITH 89, 87, 90, 93.
        Edges.run(intoFog(86, 5), "sits(0) = 4\n roster(0, 0, 2)\n roster(0, 1, 4)\n sits(0) = 2");
    }

    // ---- what were best

    /** From STEP 2 it is THROUGH behind just 40 STEPS, if ARMS of rest 0 are 9; with fewer it never is by then. */
    private static LightMan stokerForArms() {
        LightMan man = new LightMan();
        man.steps(2);
        man.goer(3, 10, 0);
        Make.rosterAll(man, 2, 0);
        man.set(1, 46);
        return man;
    }

    @Edge(promise = 24, says = "ARMS FOR a rest, n (1 to 40).")
    static void armsForTheFewestAndTheMostSteps() {
        Edges.run(stokerForArms(), """
            armsFor(0, 39) = 0
            armsFor(0, 40) = 9
            armsFor(0, 41) = -1
            armsFor(0, 0) = -1
            """);
        // AT 11 with FAITH 11 it must be SEEN by this STEP: SIGHT is ARMS less 1.
        Edges.run("""
            goer(0, 11, 11)
            roster(0, 0, 9)
            armsFor(0, 1) = 2
            armsFor(1, 1) = 0
            armsFor(5, 1) = 0
            armsFor(6, 1) = -1
            """);
        Edges.run("""
            steps(5)
            goer(0, 11, 11)
            roster(5, 0, 9)
            armsFor(5, 1) = 2
            armsFor(0, 1) = 0
            armsFor(-1, 1) = -1
            """);
    }

    @Edge(says = "the ARMS (0 to 9) which, were they of that rest now, make PASSED by n greatest; of several the least")
    static void theLeastAndTheMostArms() {
        Edges.run("armsFor(0, 1) = 0\n armsFor(5, 40) = 0");
        Edges.run("goer(0, 50, 11)\n armsFor(0, 1) = 0");
        // AT 4 SIGHT must be 8, which is 9 less 1; AT 3 no ARMS do.
        Edges.run("goer(0, 11, 4)\n roster(0, 0, 9)\n armsFor(0, 8) = 9\n bring(0, 3)\n armsFor(0, 9) = 0");
        // Two are more than one: with 0, 1 the driver alone, with 2, 3 both, with 4 and more the goer alone.
        Edges.run("goer(1, 84, 9)\n goer(0, 11, 11)\n roster(0, 0, 9)\n armsFor(0, 1) = 2\n rosterOf(0, 1) = 4");
    }

    @Edge(promise = 25, says = "FOG FOR a rest, one, n (0 to 40).")
    static void fogForNoStepsAndForTheMost() {
        LightMan man = Make.driverWithDread(37);
        Edges.run(man, "fogFor(0, 0, 40) = 9\n fogFor(0, 0, 41) = -1\n fogFor(0, 0, -1) = -1\n fogFor(5, 0, 40) = 9");
        // By a STEP fewer it is only by having SEEN him from AT 0.
        Edges.run(man, "fogFor(0, 0, 39) = 0\n fogFor(6, 0, 39) = -1\n bring(0, 12)\n fogFor(0, 0, 0) = 9");
    }

    @Edge(says = "the greatest FOG (0 to 9) of that rest now with which that one is THROUGH behind n STEPS")
    static void theLeastAndTheMostFog() {
        Edges.run("goer(0, 50, 0)\n fogFor(0, 0, 12) = 9");
        // SIGHT must be 12 AT 0, 11 AT 1, 1 AT 11.
        Edges.run("""
            goer(0, 11, 0)
            fogFor(0, 0, 12) = 0
            bring(0, 1)
            fogFor(0, 0, 11) = 1
            roster(0, 1, 0)
            bring(0, 11)
            fogFor(0, 0, 1) = 7
            """);
    }

    @Edge(promise = 25, says = "NONE: through none.")
    static void throughNoFog() {
        Edges.run("""
            goer(0, 50, 0)
            fogFor(0, 0, 11) = -3
            fogFor(0, 0, 0) = -3
            bring(0, 11)
            fogFor(0, 0, 0) = -3
            fogFor(0, 0, 1) = 9
            set(1, 99)
            fogFor(0, 0, 1) = -3
            """);
        // SIGHT must be 12 AT 0, which ARMS of 3 don't make it without FOG either.
        Edges.run("goer(0, 11, 0)\n roster(0, 1, 3)\n fogFor(0, 0, 12) = -3\n fogFor(0, 0, 40) = -3");
    }

    @Edge(promise = 26, says = "FAITH FOR one, n (0 to 40).")
    static void faithForNoStepsAndForTheMost() {
        Edges.run(Make.driverWithDread(37), """
            faithFor(0, 40) = 0
            faithFor(0, 39) = 1
            faithFor(0, 41) = -1
            faithFor(0, -1) = -1
            """);
        Edges.run("goer(0, 50, 11)\n faithFor(0, 0) = -3\n faithFor(0, 1) = 7\n bring(0, 12)\n faithFor(0, 0) = 0");
    }

    /** AT 11 and unseen: FAITH is 2 less. */
    private static LightMan unseen(int dread) {
        LightMan man = Make.with(0, 5, 11);
        Make.rosterAll(man, 9, 0);
        man.set(1, dread);
        man.set(2, 99);
        return man;
    }

    @Edge(says = "the least FAITH (0 to 99) of it now with which it is")
    static void theLeastAndTheMostFaith() {
        Edges.run(unseen(0), "faithFor(0, 1) = 0");
        Edges.run(unseen(1), "faithFor(0, 1) = 3");
        Edges.run(unseen(97), "faithFor(0, 1) = 99\n of(0, 1) = 5");
    }

    @Edge(promise = 26, says = "NONE: with none.")
    static void withNoFaith() {
        Edges.run(unseen(98), "faithFor(0, 1) = -3\n faithFor(0, 40) = -3");
    }

    @Edge(says = "the KIND as one of which it COMES soonest (not within 60 STEPS: later "
        + "than all); of several the least")
    static void kindForNoneAndForSeveral() {
        // As a driver it comes behind 60 STEPS or 61, as nobody else.
        Edges.run(Make.driverWithDread(57), "kindFor(0) = 1\n mind(0, 4)\n kindFor(0) = 1\n of(0, 0) = 4");
        Edges.run(Make.driverWithDread(58), "kindFor(0) = 0\n mind(0, 4)\n kindFor(0) = 0");
        Edges.run("goer(3, 50, 11)\n kindFor(0) = 0\n bring(0, 12)\n kindFor(0) = 0");
    }

    @Edge(promise = 27, says = "KIND FOR one.")
    static void theFirstAndTheLastKind() {
        // A child without HUM alone doesn't see him, and so doesn't sit.
        Edges.run("""
            goer(2, 88, 10)
            set(0, 0)
            kindFor(0) = 5
            set(2, 99)
            kindFor(0) = 1
            bring(0, 11)
            kindFor(0) = 0
            """);
    }

    @Edge(promise = 28, says = "LIFTED FOR n (0 to 40), v (0 to 8).")
    static void liftedForTheFewestAndTheMost() {
        Edges.run(Make.driverWithDread(37), """
            liftedFor(40, 1) = 0
            liftedFor(39, 1) = 1
            liftedFor(41, 1) = -1
            liftedFor(-1, 1) = -1
            """);
        Edges.run("""
            liftedFor(0, 0) = 0
            liftedFor(40, 0) = 0
            liftedFor(0, 1) = -3
            liftedFor(40, 8) = -3
            liftedFor(0, 9) = -1
            liftedFor(0, -1) = -1
            """);
        LightMan man = new LightMan();
        for (int i = 0; i < 8; i++) {
            man.goer(0, 50, 11);
        }
        Edges.run(man, "liftedFor(0, 8) = -3\n liftedFor(1, 8) = 0\n steps(1)\n liftedFor(0, 8) = 0");
    }

    /** AT 11 with FAITH 11, in a fog: it is THROUGH at once only if ARMS are up. */
    private static LightMan mustSeeFromStep(int step) {
        LightMan man = new LightMan();
        if (step > 0) {
            man.steps(step);
        }
        man.goer(0, 11, 11);
        Make.rosterAll(man, 9, 4);
        return man;
    }

    @Edge(says = "the set of fewest rests such that, were their ARMS 9 now, and of all "
        + "others 0, PASSED by n is v or more")
    static void noRestAndAllRests() {
        for (int step = 0; step < 8; step++) {
            Edges.run(mustSeeFromStep(step), "liftedFor(1, 0) = 0\n liftedFor(1, 1) = " + (1 << step % 6));
        }
        // FAITH 3 more in each of six STEPS, till then back from 10 to 5: no rest can be spared.
        LightMan all = Make.with(0, 0, 10);
        Make.rosterAll(all, 9, 4);
        all.set(1, 18);
        Edges.run(all, "liftedFor(12, 1) = 63\n set(1, 19)\n liftedFor(12, 1) = -3");
        // ARMS of 8 would not do: SIGHT must be 8 AT 4, which is 9 less 1.
        Edges.run("goer(0, 11, 4)\n roster(0, 0, 9)\n liftedFor(8, 1) = 1\n roster(0, 1, 9)\n liftedFor(8, 1) = 1");
        // AT 11 SIGHT must be 1: with ARMS of 0 it is none in FOG 8, and 1 in FOG 7.
        Edges.run("goer(0, 11, 11)\n roster(0, 0, 8)\n liftedFor(1, 1) = 1\n roster(0, 0, 7)\n liftedFor(1, 1) = 0");
        // Two are 1 or more.
        Edges.run("""
            goer(0, 50, 11)
            goer(0, 50, 11)
            liftedFor(1, 1) = 0
            liftedFor(1, 2) = 0
            liftedFor(1, 3) = -3
            """);
    }

    @Edge(says = "PASSED by n is v or more; of several the least")
    static void ofSeveralSetsTheLeast() {
        // By 3 STEPS this one's rest does, or the next one's.
        Edges.run(mustSeeFromStep(1), "liftedFor(3, 1) = 2");
        Edges.run(mustSeeFromStep(4), "liftedFor(3, 1) = 16");
        Edges.run(mustSeeFromStep(5), "liftedFor(3, 1) = 1\n liftedFor(2, 1) = 32");
    }

    @Edge(promise = 28, says = "NONE: by no set.")
    static void byNoSet() {
        // What lets the goer through makes the driver sit.
        Edges.run("goer(1, 84, 9)\n goer(0, 11, 11)\n roster(0, 0, 9)\n liftedFor(1, 1) = 0\n liftedFor(1, 2) = -3");
        Edges.run("goer(0, 50, 0)\n liftedFor(11, 1) = -3\n liftedFor(12, 1) = 0");
    }

    @Edge(says = "(LOVE is below DREAD), else 0")
    static void ormeWhereLoveIsAsMuchAsDread() {
        Edges.run("""
            state(5) = 0
            set(2, 10)
            state(5) = 0
            set(2, 9)
            state(5) = 1
            set(1, 0)
            set(2, 0)
            state(5) = 0
            set(1, 99)
            state(5) = 1
            set(2, 98)
            state(5) = 1
            set(2, 99)
            state(5) = 0
            """);
    }

    // ---- fits

    private static void fit(LightMan man, int many, int least, int... places) {
        for (int sort = 0; sort < 4; sort++) {
            Make.putAll(man, sort, sort, places);
            String told = Arrays.toString(places) + " of sort " + sort;
            DUE.is(many, man.fits(sort, 0, 0), "how many fit by " + told);
            DUE.is(least, man.fits(sort, 0, 1), "the least by " + told);
        }
    }

    @Edge(says = "those numbers (0 to 99) that might be its FAITH now")
    static void theLeastAndTheMostNumberThatFits() {
        LightMan last = Make.with(0, 50, 1);
        last.set(2, 96);
        fit(last, 1, 99, 1);
        last.set(2, 97);
        fit(last, 0, -3, 1);
        LightMan first = Make.with(0, 50, 5);
        first.set(1, 4);
        fit(first, 1, 0, 4);
        first.set(1, 3);
        fit(first, 0, -3, 4);
        DUE.is(50, first.of(0, 1), "FAITH behind it");
    }

    @Edge(says = "AT the PLACES that the numbers of the SHEET tell, one by one (12: THROUGH; -1: any)")
    static void anyPlaceThroughAndNoPlaceAtAll() {
        fit(Make.with(0, 50, 5), 100, 0, -1);
        fit(Make.with(0, 50, 5), 0, -3, -2);
        fit(Make.with(0, 50, 5), 0, -3, 13);
        fit(Make.with(0, 50, 11), 81, 7, 12);
        fit(Make.with(0, 50, 11), 81, 7, 12, 12, -1, 12);
        fit(Make.with(0, 50, 11), 0, -3, 12, 11);
        fit(Make.with(0, 50, 11), 7, 0, 10);
    }

    @Edge(says = "so that it is, behind 1, 2, .. STEPS, AT the PLACES that the numbers of the SHEET tell")
    static void byNoNumbersAndByForty() {
        fit(Make.with(0, 50, 5), 100, 0);
        // Of 0 to 84 each is THROUGH behind 40 STEPS; of 1 to 84 behind 39.
        int[] places = new int[40];
        Arrays.fill(places, -1);
        places[39] = 12;
        fit(Make.driverWithDread(37), 85, 0, places);
        places[38] = 12;
        fit(Make.driverWithDread(37), 84, 1, places);
        places[38] = 9;
        fit(Make.driverWithDread(37), 1, 0, places);
        places[0] = 1;
        fit(Make.driverWithDread(37), 0, -3, places);
    }

    @Edge(promise = 29, says = "BAD: no such SHEET, one, what; -11; NONE (what 1): none.")
    static void byAMissingSheetAndNoneThatFit() {
        Edges.run("""
            goer(0, 50, 5)
            fits(0, 0, 0) = -11
            fits(3, 0, 1) = -11
            fits(3, 0, 2) = -1
            fits(3, 1, 0) = -1
            fits(4, 0, 0) = -1
            fits(-1, 0, 0) = -1
            sheet(3, 0, 1)
            put(3, 0, 7)
            fits(3, 0, 0) = 0
            fits(3, 0, 1) = -3
            """);
    }

    // ---- odds

    private static void oddsAre(int lamp, int n, int k, long above, long below) {
        LightMan man = new LightMan();
        man.set(3, lamp);
        DUE.is(above, man.odds(n, k, 0), "odds(" + n + ", " + k + ", 0) with LAMP " + lamp);
        DUE.is(below, man.odds(n, k, 1), "odds(" + n + ", " + k + ", 1) with LAMP " + lamp);
    }

    @Edge(promise = 30, says = "ODDS by n (0 to 8), k (0 to n): a part of them.")
    static void oddsOfNoneAndOfAll() {
        oddsAre(20, 0, 0, 1, 1);
        oddsAre(20, 1, 0, 4, 5);
        oddsAre(20, 1, 1, 1, 5);
        oddsAre(20, 8, 0, 65536, 390625);
        oddsAre(20, 8, 8, 1, 390625);
        oddsAre(50, 8, 4, 35, 128);
        Edges.run("""
            odds(-1, 0, 0) = -1
            odds(9, 0, 0) = -1
            odds(8, 9, 0) = -1
            odds(0, 1, 0) = -1
            odds(0, -1, 1) = -1
            odds(8, 8, 2) = -1
            odds(8, 8, -1) = -1
            """);
    }

    @Edge(says = "each by LAMP of a hundred")
    static void oddsWithTheLeastAndTheMostLamp() {
        oddsAre(0, 8, 0, 1, 1);
        oddsAre(0, 0, 0, 1, 1);
        oddsAre(99, 8, 8, 9_227_446_944_279_201L, 10_000_000_000_000_000L);
        oddsAre(99, 8, 0, 1, 10_000_000_000_000_000L);
        oddsAre(1, 8, 8, 1, 10_000_000_000_000_000L);
        // 70 ways, 99 to the 4th: by 70 and 10 to the 16th 10 is common.
        oddsAre(99, 8, 4, 7L * 96_059_601L, 1_000_000_000_000_000L);
    }

    @Edge(says = "without a common divisor, below above 0 (0 is 0 by 1)")
    static void nothingIsNothingByOne() {
        oddsAre(0, 8, 1, 0, 1);
        oddsAre(0, 8, 8, 0, 1);
        Edges.run("hope(0, 0) = 0\n hope(0, 1) = 1\n set(3, 0)\n hope(99, 0) = 0\n hope(99, 1) = 1\n hope(0, 1) = 1");
        Edges.run("set(3, 50)\n hope(2, 0) = 1\n hope(2, 1) = 1\n hope(1, 0) = 1\n hope(1, 1) = 2");
    }

    @Edge(promise = 31, says = "HOPE by n (0 to 99): a part of it.")
    static void hopeOfNoneAndOfTheMost() {
        Edges.run("""
            hope(-1, 0) = -1
            hope(0, 0) = 0
            hope(99, 0) = 99
            hope(99, 1) = 5
            hope(100, 0) = -1
            hope(99, 2) = -1
            hope(99, -1) = -1
            set(3, 99)
            hope(99, 0) = 9801
            hope(99, 1) = 100
            """);
    }
}
