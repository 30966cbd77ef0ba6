/** Boundary cases of laws, roster, goers and steps: the first part of the terms, promises 1 and 4 to 18. */
final class TunnelEdges {
    private static final Due DUE = Edges.DUE;

    private TunnelEdges() {
    }

    // ---- a new object, and how long it is used

    @Edge(promise = Edge.WHAT_IT_IS, says = "An object is used for at most 512 calls after it has been made")
    static void theLastOfSoManyCallsIsAnswered() {
        LightMan man = Make.with(0, 99, 5);
        for (int call = 2; call < 512; call++) {
            man.steps(60);
        }
        DUE.is(510 * 60, man.state(0), "state(0) as call 512");
    }

    @Edge(promise = 1, says = "No GOERS")
    static void aNewOneHasNoGoers() {
        Edges.run("many(0) = 0\n of(0, 0) = -1\n state(1) = 0\n state(2) = 0\n state(3) = 0\n state(4) = 0");
        Edges.run("many(1) = 0\n many(2) = 0\n many(3) = 0\n steps(1) = 0\n passed(60) = 0\n goer(0, 0, 0) = 0");
    }

    @Edge(promise = 1, says = "nothing is kept")
    static void aNewOneKeepsNothing() {
        Edges.run("again() = -3\n steps(2) = 0\n again() = -3\n state(0) = 2");
    }

    // ---- laws

    private static void lawGoesFromTo(int law, int first, int most) {
        LightMan man = new LightMan();
        DUE.is(first, man.lawOf(law), "the law at first");
        DUE.is(-1, man.set(law, -1), "one below the least");
        DUE.is(-1, man.set(law, most + 1), "one above the most");
        DUE.is(first, man.set(law, 0), "the least");
        DUE.is(0, man.lawOf(law), "the law at its least");
        DUE.is(0, man.set(law, most), "the most");
        DUE.is(most, man.lawOf(law), "the law at its most");
    }

    @Edge(says = "0 HUM (0 to 9; 3 at first)")
    static void hum() {
        lawGoesFromTo(0, 3, 9);
    }

    @Edge(says = "1 DREAD (0 to 99; 10)")
    static void dread() {
        lawGoesFromTo(1, 10, 99);
    }

    @Edge(says = "2 LOVE (0 to 99; 90)")
    static void love() {
        lawGoesFromTo(2, 90, 99);
    }

    @Edge(says = "3 LAMP (0 to 99 of a hundred; 20)")
    static void lamp() {
        lawGoesFromTo(3, 20, 99);
    }

    @Edge(promise = 4, says = "A LAW becomes v: what it was.")
    static void aLawIsSetAlone() {
        Edges.run("""
            set(0, 9) = 3
            set(0, 9) = 9
            lawOf(0) = 9
            lawOf(1) = 10
            set(3, 0) = 20
            lawOf(2) = 90
            lawOf(3) = 0
            """);
    }

    @Edge(promise = 5, says = "A LAW. BAD.")
    static void theFirstAndTheLastLaw() {
        Edges.run("lawOf(-1) = -1\n lawOf(0) = 3\n lawOf(3) = 20\n lawOf(4) = -1\n lawOf(MIN) = -1\n lawOf(MAX) = -1");
    }

    // ---- the roster

    @Edge(says = "STEP (0 at first).")
    static void stepAtFirst() {
        Edges.run("state(0) = 0\n roster(0, 1, 9)\n goer(0, 50, 0)\n does(0, 0) = 1015");
    }

    @Edge(says = "for each rest 0 to 5 of STEP by 6 FOG (0 to 9; 2 at first)")
    static void theSeventhStepHasTheFirstFogAgain() {
        LightMan man = Make.with(0, 99, 11);
        for (int rest = 0; rest < 6; rest++) {
            DUE.is(2, man.roster(rest, 0, 9 - rest), "FOG at first of rest " + rest);
        }
        for (int step = 0; step < 14; step++) {
            DUE.is(1000 + 12 - (9 - step % 6), man.does(0, 0), "SIGHT in STEP " + step);
            man.steps(1);
        }
        man.steps(46);
        DUE.is(1000 + 12 - 9, man.does(0, 0), "SIGHT in STEP 60");
        Edges.run(man, "roster(0, 0, 0) = 9\n roster(0, 0, 9) = 0\n roster(0, 0, 10) = -1\n roster(0, 0, -1) = -1");
    }

    @Edge(says = "ARMS (0 to 9; 4 at first): these of that rest hold in that STEP.")
    static void theSeventhStepHasTheFirstArmsAgain() {
        LightMan man = Make.with(1, 99, 11);
        for (int rest = 0; rest < 6; rest++) {
            DUE.is(4, man.roster(rest, 1, 9 - rest), "ARMS at first of rest " + rest);
        }
        for (int step = 0; step < 14; step++) {
            DUE.is(1003 + 9 - step % 6, man.does(0, 1), "KEEN in STEP " + step);
            man.steps(1);
        }
        Edges.run(man, "roster(5, 1, 0) = 4\n roster(5, 1, 9) = 0\n roster(5, 1, 10) = -1\n roster(5, 1, -1) = -1");
    }

    @Edge(promise = 6, says = "FOG (what 0), ARMS (1) of a rest becomes v: what it was.")
    static void theFirstAndTheLastRestAreSetAlone() {
        LightMan man = new LightMan();
        Edges.run(man, "roster(0, 0, 9) = 2\n roster(5, 1, 0) = 4\n roster(5, 1, 0) = 0");
        for (int rest = 0; rest < 6; rest++) {
            DUE.is(rest == 0 ? 9 : 2, man.rosterOf(rest, 0), "FOG of rest " + rest);
            DUE.is(rest == 5 ? 0 : 4, man.rosterOf(rest, 1), "ARMS of rest " + rest);
        }
    }

    @Edge(promise = 7, says = "Of a rest: what = 0 FOG, 1 ARMS.")
    static void theFirstAndTheLastRest() {
        Edges.run("""
            rosterOf(-1, 0) = -1
            rosterOf(0, 0) = 2
            rosterOf(5, 0) = 2
            rosterOf(6, 0) = -1
            rosterOf(0, -1) = -1
            rosterOf(0, 1) = 4
            rosterOf(5, 1) = 4
            rosterOf(0, 2) = -1
            """);
    }

    // ---- goers

    @Edge(says = "PLACES 0 to 11 in a row to the far mouth; behind 11 one is THROUGH (as if AT a PLACE 12).")
    static void behindTheLastPlaceOneIsThrough() {
        Edges.run("""
            goer(0, 50, 11) = 0
            state(1) = 0
            steps(1) = 1
            of(0, 2) = 12
            state(1) = 1
            state(4) = 12
            """);
    }

    @Edge(says = "GOERS, 8 at most, numbered as they come")
    static void eightGoersAndNoNinth() {
        LightMan man = new LightMan();
        for (int i = 0; i < 8; i++) {
            DUE.is(i, man.goer(i % 6, 10 + i, i), "goer number " + i);
        }
        Edges.run(man, "goer(0, 50, 0) = -2\n many(0) = 8\n of(7, 1) = 17\n of(8, 1) = -1\n of(0, 1) = 10");
    }

    @Edge(says = "with FAITH (0 to 99), AT a PLACE, or THROUGH")
    static void theLeastAndTheMostFaith() {
        Edges.run("""
            goer(0, 0, 0) = 0
            goer(0, 99, 0) = 1
            goer(0, 100, 0) = -1
            goer(0, -1, 0) = -1
            state(3) = 99
            """);
    }

    @Edge(says = "MOVED: in how many STEPS it has SEEN him (0 at first; 9999 at most).")
    static void movedStopsAtItsMost() {
        LightMan man = Make.with(0, 99, 5);
        DUE.is(0, man.of(0, 3), "MOVED at first");
        for (int i = 0; i < 166; i++) {
            man.steps(60);
        }
        Edges.run(man, "of(0, 3) = 9960\n steps(38)\n of(0, 3) = 9998\n steps(1)\n of(0, 3) = 9999");
        Edges.run(man, "steps(1)\n of(0, 3) = 9999\n step()\n of(0, 3) = 9999\n steps(60)\n of(0, 3) = 9999");
    }

    @Edge(says = "MOVED: in how many STEPS it has SEEN him (0 at first")
    static void movedIsOnlyByHavingSeen() {
        // AT 1 he isn't seen (SIGHT 10), AT 2 he is.
        Edges.run("goer(0, 50, 1)\n steps(1)\n of(0, 3) = 0\n many(3) = 0\n steps(1)\n of(0, 3) = 1\n many(3) = 1");
    }

    @Edge(promise = 8, says = "One more AT a PLACE (0 to 11): its number.")
    static void theFirstAndTheLastPlaceOfAGoer() {
        Edges.run("""
            goer(0, 50, -1) = -1
            goer(0, 50, 12) = -1
            goer(0, 50, 0) = 0
            goer(5, 50, 11) = 1
            goer(6, 50, 3) = -1
            goer(-1, 50, 3) = -1
            of(0, 2) = 0
            of(1, 2) = 11
            of(1, 0) = 5
            """);
    }

    @Edge(promise = 8, says = "FULL.")
    static void thoseThroughStillFillTheTunnel() {
        LightMan man = new LightMan();
        for (int i = 0; i < 8; i++) {
            man.goer(0, 50, 11);
        }
        Edges.run(man, "steps(1) = 8\n goer(0, 50, 0) = -2\n goer(0, 50, 12) = -1\n many(0) = 8");
    }

    @Edge(promise = 9, says = "2 its PLACE (12: THROUGH), 3 MOVED, 4 1 if it SEES him now, else 0 (0: it is THROUGH).")
    static void oneThroughSeesNobody() {
        Edges.run("""
            goer(1, 50, 11)
            of(0, 2) = 11
            of(0, 4) = 1
            bring(0, 12)
            of(0, 2) = 12
            of(0, 4) = 0
            of(0, 3) = 0
            bring(0, 0)
            of(0, 4) = 1
            roster(0, 0, 7)
            of(0, 4) = 0
            """);
    }

    // ---- what the kinds are

    @Edge(says = "It SEES him, if PLACES from it to 12 are as many as SIGHT, or fewer.")
    static void theFirstPlaceFromWhichEachKindSees() {
        // FOG 9, ARMS 4, HUM 3: SIGHT is 3, 7, 1, 3, 4, 6.
        int[] first = {9, 5, 11, 9, 8, 6};
        for (int kind = 0; kind < 6; kind++) {
            LightMan man = Make.with(kind, 50, 0);
            man.roster(0, 0, 9);
            for (int place = 0; place < 12; place++) {
                man.bring(0, place);
                DUE.is(place >= first[kind] ? 1 : 0, man.of(0, 4), "of(0, 4) of kind " + kind + " AT " + place);
            }
        }
    }

    @Edge(says = "It SEES him, if PLACES from it to 12 are as many as SIGHT, or fewer.")
    static void aSightOfNothingSeesNotEvenFromTheLastPlace() {
        // SIGHT of a goer is 1, 0, -1; of a child without HUM 0.
        Edges.run("""
            goer(0, 50, 11)
            roster(0, 0, 8)
            roster(0, 1, 1)
            of(0, 4) = 1
            roster(0, 1, 0)
            of(0, 4) = 0
            roster(0, 0, 9)
            of(0, 4) = 0
            mind(0, 5)
            of(0, 4) = 1
            set(0, 0)
            of(0, 4) = 0
            """);
    }

    @Edge(says = "stoker: as driver, less half of FOG (cut).")
    static void halfOfAnOddFogIsCut() {
        int[] sight = {16, 15, 13, 12, 10, 9, 7, 6, 4, 3};
        LightMan man = Make.with(3, 50, 0);
        for (int fog = 0; fog < 10; fog++) {
            man.roster(0, 0, fog);
            DUE.is(1000 + sight[fog], man.does(0, 0), "SIGHT of a stoker in FOG " + fog);
        }
    }

    @Edge(says = "child: HUM, twice that.")
    static void aChildWithTheLeastAndTheMostHum() {
        Edges.run("goer(5, 50, 0)\n set(0, 0)\n does(0, 0) = 1000\n does(0, 1) = 1003\n set(0, 9)\n does(0, 0) = 1018\n"
            + "does(0, 1) = 1012\n of(0, 4) = 1");
    }

    @Edge(says = "driver: as goer, less 3 (so it may be below 0).")
    static void aDriversFearsAreBelowNothing() {
        // Unseen, FAITH is 1 more.
        Edges.run("goer(1, 50, 0)\n roster(0, 0, 9)\n does(0, 2) = 999\n of(0, 4) = 0\n steps(1)\n of(0, 1) = 51");
    }

    @Edge(says = "stoker: as driver, and FOG.")
    static void aStokersFearsAreAboveNothingByFogAlone() {
        Edges.run("goer(3, 50, 0)\n roster(0, 0, 0)\n does(0, 2) = 999\n roster(0, 0, 1)\n does(0, 2) = 1000\n"
            + "roster(0, 0, 9)\n does(0, 2) = 1008\n steps(1)\n of(0, 1) = 42");
    }

    @Edge(says = "widow: as mourner, in even STEPS; else 0.")
    static void aWidowGoesInEvenStepsOnly() {
        Edges.run("""
            goer(4, 10, 5)
            does(0, 3) = 1001
            steps(1)
            of(0, 2) = 6
            does(0, 3) = 1000
            steps(1)
            of(0, 2) = 6
            does(0, 3) = 1001
            steps(1)
            of(0, 2) = 7
            """);
    }

    @Edge(says = "child: as goer; and 1, if it SEES him.")
    static void aChildIsQuickerFromWhereItSees() {
        // SIGHT is 6: AT 5 it doesn't see him, AT 6 it does.
        Edges.run("""
            goer(5, 50, 5)
            does(0, 3) = 1001
            steps(1)
            of(0, 2) = 6
            does(0, 3) = 1002
            steps(1)
            of(0, 2) = 8
            """);
    }

    // ---- a step

    private static void goes(LightMan man, int faithThen, int placeThen) {
        String told = "kind " + man.of(0, 0) + " with FAITH " + man.of(0, 1) + " AT " + man.of(0, 2);
        man.steps(1);
        DUE.is(faithThen, man.of(0, 1), "FAITH then of " + told);
        DUE.is(placeThen, man.of(0, 2), "PLACE then of " + told);
    }

    @Edge(says = "each of GOERS that isn't THROUGH, by numbers")
    static void oneThroughStaysAsItIs() {
        Edges.run("""
            goer(1, 50, 9)
            goer(1, 0, 3)
            bring(1, 12)
            goer(0, 50, 0)
            steps(1) = 2
            steps(60) = 3
            of(0, 1) = 57
            of(0, 2) = 12
            of(0, 3) = 1
            of(1, 1) = 0
            of(1, 2) = 12
            of(1, 3) = 0
            """);
    }

    @Edge(says = "else FAITH is FEARS less (held to 0 to 99).")
    static void faithIsHeldToItsLeast() {
        goes(Make.with(0, 3, 0), 1, 0);
        goes(Make.with(0, 2, 0), 0, 0);
        goes(Make.with(0, 1, 0), 0, 0);
        goes(Make.with(0, 0, 0), 0, 0);
        goes(Make.with(5, 4, 1), 0, 0);
    }

    @Edge(says = "If it SEES him, FAITH is KEEN more, MOVED 1 more; else FAITH is FEARS less (held to 0 to 99).")
    static void faithIsHeldToItsMost() {
        goes(Make.with(0, 95, 5), 98, 5);
        goes(Make.with(0, 96, 5), 99, 5);
        goes(Make.with(0, 97, 5), 99, 5);
        goes(Make.with(0, 99, 5), 99, 5);
        // By FEARS below 0, too.
        for (int faith = 97; faith < 100; faith++) {
            LightMan driver = Make.with(1, faith, 0);
            driver.roster(0, 0, 9);
            goes(driver, Math.min(99, faith + 1), 0);
        }
    }

    @Edge(says = "If FAITH is below DREAD then, it goes back by a PLACE")
    static void faithAtDreadGoesOn() {
        goes(Make.with(0, 6, 5), 9, 4);
        goes(Make.with(0, 7, 5), 10, 6);
        goes(Make.with(0, 11, 1), 9, 0);
        goes(Make.with(0, 12, 1), 10, 2);
    }

    @Edge(says = "1 DREAD (0 to 99; 10)")
    static void theLeastAndTheMostDread() {
        LightMan fearless = Make.with(0, 0, 0);
        fearless.set(1, 0);
        goes(fearless, 0, 1);
        LightMan fearful = Make.with(0, 95, 5);
        fearful.set(1, 99);
        fearful.set(2, 99);
        goes(fearful, 98, 4);
        goes(fearful, 99, 5);
    }

    @Edge(says = "(it stays AT 0)")
    static void nobodyGoesBackBehindTheFirstPlace() {
        goes(Make.with(0, 5, 1), 3, 0);
        LightMan man = Make.with(0, 5, 0);
        goes(man, 3, 0);
        goes(man, 1, 0);
        DUE.is(0, man.state(4), "state(4)");
    }

    @Edge(says = "else, if it is above LOVE, it SITS (it stays)")
    static void faithAtLoveGoesOn() {
        goes(Make.with(0, 87, 5), 90, 6);
        goes(Make.with(0, 88, 5), 91, 5);
        LightMan all = Make.with(0, 99, 5);
        all.set(2, 99);
        goes(all, 99, 6);
        LightMan none = Make.with(0, 2, 0);
        none.set(1, 0);
        none.set(2, 0);
        goes(none, 0, 1);
        none.trust(0, 3);
        goes(none, 1, 1);
    }

    @Edge(says = "else, if it is above LOVE, it SITS (it stays)")
    static void belowDreadStandsBeforeAboveLove() {
        LightMan man = Make.with(0, 50, 5);
        man.set(1, 54);
        man.set(2, 0);
        goes(man, 53, 4);
        goes(man, 56, 4);
    }

    @Edge(says = "(and is THROUGH, if that is AT 12 or beyond)")
    static void beyondTheMouthIsThroughToo() {
        goes(Make.with(1, 50, 8), 57, 11);
        goes(Make.with(1, 50, 9), 57, 12);
        goes(Make.with(1, 50, 10), 57, 12);
        goes(Make.with(1, 50, 11), 57, 12);
        goes(Make.with(0, 50, 10), 53, 11);
        goes(Make.with(0, 50, 11), 53, 12);
    }

    @Edge(says = "STEP is 1 more.")
    static void stepIsMoreWithNobodyToo() {
        Edges.run("steps(1) = 0\n state(0) = 1\n step() = 0\n state(0) = 2\n steps(60) = 0\n state(0) = 62");
    }

    // ---- goers that become others

    @Edge(promise = 10, says = "1000, and SIGHT (what 0), KEEN (1), FEARS (2), PACE (3) of one now.")
    static void whatIsBelowNothingIsBelowAThousand() {
        // FOG 9, ARMS 0: SIGHT is least by the mourner, then by all.
        int[] sight = {999, 1003, 997, 999, 1000, 1006};
        LightMan man = Make.allKindsAt(0);
        Make.rosterAll(man, 9, 0);
        for (int kind = 0; kind < 6; kind++) {
            DUE.is(sight[kind], man.does(kind, 0), "SIGHT of kind " + kind);
        }
        Edges.run(man, "does(1, 2) = 999\n does(4, 3) = 1001\n steps(1)\n does(4, 3) = 1000");
    }

    @Edge(promise = 10, says = "NONE: it is THROUGH.")
    static void oneThroughDoesNothing() {
        Edges.run("""
            goer(0, 50, 11)
            does(0, 0) = 1010
            bring(0, 12)
            does(0, 0) = -3
            does(0, 3) = -3
            does(0, 4) = -1
            does(0, -1) = -1
            bring(0, 11)
            does(0, 3) = 1001
            """);
    }

    @Edge(promise = 11, says = "One becomes one of another KIND: the KIND that it was.")
    static void theFirstAndTheLastKind() {
        Edges.run("""
            goer(2, 50, 3)
            mind(0, 5) = 2
            mind(0, 6) = -1
            mind(0, -1) = -1
            mind(0, 0) = 5
            of(0, 0) = 0
            bring(0, 12)
            mind(0, 4) = 0
            of(0, 0) = 4
            of(0, 1) = 50
            of(0, 2) = 12
            """);
    }

    @Edge(promise = 12, says = "FAITH becomes v: what it was.")
    static void theLeastAndTheMostTrust() {
        Edges.run("""
            goer(2, 50, 3)
            trust(0, 0) = 50
            trust(0, -1) = -1
            trust(0, 99) = 0
            trust(0, 100) = -1
            of(0, 1) = 99
            bring(0, 12)
            trust(0, 7) = 99
            of(0, 1) = 7
            """);
    }

    @Edge(promise = 13, says = "It is AT a PLACE (0 to 11) from now on, or THROUGH (12): its PLACE till then.")
    static void oneThroughIsBroughtBack() {
        Edges.run("""
            goer(1, 50, 3)
            bring(0, 0) = 3
            bring(0, -1) = -1
            bring(0, 11) = 0
            bring(0, 12) = 11
            bring(0, 13) = -1
            state(1) = 1
            steps(1) = 1
            bring(0, 0) = 12
            state(1) = 0
            steps(3) = 0
            of(0, 2) = 9
            steps(1) = 1
            of(0, 2) = 12
            """);
    }

    // ---- steps, and steps by draws

    @Edge(promise = 14, says = "n STEPS (1 to 60): how many are THROUGH then.")
    static void theFewestAndTheMostSteps() {
        Edges.run("steps(0) = -1\n steps(1) = 0\n state(0) = 1\n steps(61) = -1\n steps(60) = 0\n state(0) = 61");
        Edges.run(Make.driverWithDread(57), "steps(60) = 1");
        Edges.run(Make.driverWithDread(58), "steps(60) = 0\n steps(1) = 1");
    }

    @Edge(says = "DRAWS: z (an int; 1 at first) becomes z * 1103515245 + 12345; z >>> 16 is drawn.")
    static void zWrapsAndIsDrawnWithoutASign() {
        for (int z : new int[] {1, 0, -1, 3, 5, Integer.MAX_VALUE, Integer.MIN_VALUE, 123456789}) {
            LightMan man = new LightMan();
            for (int i = 0; i < 7; i++) {
                man.goer(0, 50 + i, 5);
            }
            man.set(3, 99);
            if (z == 1) {
                DUE.is(1, man.seed(1), "z at first");
            }
            man.seed(z);
            int first = z * 1103515245 + 12345;
            int second = first * 1103515245 + 12345;
            int one = (int) ((first & 0xffffffffL) >> 16) % 7;
            boolean lamp = (int) ((second & 0xffffffffL) >> 16) % 100 < 99;
            man.step();
            for (int i = 0; i < 7; i++) {
                int faith = i == one && lamp ? 99 - (50 + i) : 50 + i;
                DUE.is(faith + 3, man.of(i, 1), "FAITH of " + i + " by a draw from " + z);
            }
            DUE.is(second, man.seed(0), "z behind two draws from " + z);
        }
    }

    @Edge(says = "if there are GOERS, a draw: the one that it leaves by how many there are")
    static void nobodyIsDrawnFromNobody() {
        Edges.run("step() = 0\n seed(1) = 1\n luck(30) = 0\n seed(1) = 1");
        // From one, the first draw leaves 0, whatever it is; those THROUGH count, too.
        Edges.run("goer(0, 20, 0)\n set(3, 99)\n bring(0, 12)\n step() = 1\n of(0, 1) = 79");
    }

    /** The first z from which the second draw leaves that much by 100. */
    private static int zThatLeaves(int left) {
        for (int z = 1; z < 100_000; z++) {
            int second = (z * 1103515245 + 12345) * 1103515245 + 12345;
            if ((second >>> 16) % 100 == left) {
                return z;
            }
        }
        throw new IllegalStateException("no such z");
    }

    @Edge(says = "if what that leaves by 100 is below LAMP, FAITH of that one is 99 less what it was")
    static void aDrawAtLampIsNoLamp() {
        int[][] leftAndLamp = {{0, 0}, {0, 1}, {1, 1}, {98, 99}, {99, 99}, {98, 98}};
        for (int[] each : leftAndLamp) {
            LightMan man = Make.with(0, 99, 5);
            man.set(2, 99);
            man.set(3, each[1]);
            man.seed(zThatLeaves(each[0]));
            man.step();
            DUE.is(each[0] < each[1] ? 3 : 99, man.of(0, 1), "FAITH where " + each[0] + " is left, LAMP " + each[1]);
        }
    }

    @Edge(promise = 15, says = "z becomes v: what it was.")
    static void anyIntCanBeZ() {
        Edges.run("""
            seed(MIN) = 1
            seed(MAX) = -2147483648
            seed(0) = 2147483647
            seed(-1) = 0
            seed(5) = -1
            seed(5) = 5
            """);
    }

    @Edge(promise = 16, says = "A STEP BY DRAWS: how many are THROUGH then.")
    static void aStepByDrawsOfNobodyAndOfAll() {
        Edges.run("step() = 0");
        LightMan man = new LightMan();
        man.set(3, 0);
        for (int i = 0; i < 8; i++) {
            man.goer(0, 50, i < 3 ? 10 : 11);
        }
        Edges.run(man, "step() = 5\n step() = 8\n step() = 8\n state(0) = 3");
    }

    /** AT 5 with FAITH 95 it sits; with 99 less that it goes on. */
    private static LightMan sitsButForALamp(int z) {
        LightMan man = Make.with(0, 95, 5);
        man.set(1, 5);
        man.set(3, 60);
        man.seed(z);
        return man;
    }

    private static int lampsIn(int tries, int z, int lamp) {
        int lamps = 0;
        for (int i = 0; i < tries; i++) {
            z = (z * 1103515245 + 12345) * 1103515245 + 12345;
            lamps += (z >>> 16) % 100 < lamp ? 1 : 0;
        }
        return lamps;
    }

    @Edge(promise = 17, says = "LUCK (n 1 to 30).")
    static void theFewestAndTheMostTries() {
        Edges.run("goer(0, 50, 5)\n luck(0) = -1\n luck(1) = 0\n luck(30) = 0\n luck(31) = -1");
        for (int z = -2; z < 3; z++) {
            LightMan man = sitsButForALamp(z);
            for (int n : new int[] {1, 2, 29, 30}) {
                DUE.is(lampsIn(n, z, 60), man.luck(n), "luck(" + n + ") from " + z);
            }
        }
    }

    @Edge(says = "each tried from how all is now (z alone goes on)")
    static void noTryGoesOnFromTheOneBefore() {
        // By a lamp it goes on from 5 to 6 alone, each time; without one it sits, each time.
        for (int lamp = 0; lamp < 100; lamp += 33) {
            LightMan man = sitsButForALamp(99);
            man.set(3, lamp);
            DUE.is(lampsIn(30, 99, lamp), man.luck(30), "luck(30) with LAMP " + lamp);
            DUE.is(lampsIn(30, 99, lamp), man.luck(30), "luck(30) with LAMP " + lamp + " once more");
            DUE.is(99, man.seed(99), "z behind it");
        }
    }

    @Edge(says = "PLACES of all together are more than behind a STEP (nothing changes, z neither)")
    static void asManyPlacesAreNotMore() {
        // FAITH 50 goes on, as 49 does; FAITH 99 sits, and 0 goes back; 4 goes back, where 95 goes on.
        Edges.run("goer(0, 50, 5)\n set(3, 99)\n luck(30) = 0\n trust(0, 99)\n luck(30) = 0");
        Edges.run("""
            goer(0, 95, 5)
            set(2, 99)
            set(3, 99)
            luck(30) = 0
            seed(1) = 1
            of(0, 1) = 95
            of(0, 2) = 5
            """);
    }

    @Edge(promise = 18, says = "4 PLACES of all together (12: THROUGH), 5 ORME.")
    static void stateOfNobodyAndOfEight() {
        Edges.run("state(-1) = -1\n state(0) = 0\n state(4) = 0\n state(5) = 0\n state(6) = -1");
        LightMan man = new LightMan();
        for (int i = 0; i < 8; i++) {
            man.goer(0, 99, 11);
            man.bring(i, 12);
        }
        Edges.run(man, """
            state(1) = 255
            state(2) = 0
            state(3) = 792
            state(4) = 96
            bring(7, 11)
            state(1) = 127
            state(2) = 128
            state(4) = 95
            """);
    }

    @Edge(says = "Sets are told by bits.")
    static void theFirstAndTheLastBit() {
        LightMan man = new LightMan();
        for (int i = 0; i < 8; i++) {
            man.goer(0, 50, 0);
        }
        Edges.run(man, "bring(0, 12)\n state(1) = 1\n bring(7, 12)\n state(1) = 129\n bring(0, 2)\n state(2) = 1\n"
            + "bring(7, 2)\n state(2) = 129\n state(1) = 0");
    }
}
