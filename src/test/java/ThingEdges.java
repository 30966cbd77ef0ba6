import java.util.Arrays;

/** Boundary cases of rows, sheets, shelves, acts and tunnels kept: the third part of the terms, promises 32 to 46. */
final class ThingEdges {
    private static final Due DUE = Edges.DUE;
    private static final int MIN = Integer.MIN_VALUE, MAX = Integer.MAX_VALUE;

    private ThingEdges() {
    }

    // ---- rows

    @Edge(promise = 32, says = "ROWS of one by n STEPS (1 to 10): how many.")
    static void theFewestAndTheMostRows() {
        Edges.run("""
            goer(0, 50, 2)
            prove(0, 0) = -1
            prove(0, 11) = -1
            many(4) = 0
            prove(0, 10) = 10
            many(4) = 10
            row(9, 0) = 12
            row(8, 0) = 11
            row(9, 1) = 80
            prove(0, 1) = 1
            many(4) = 1
            row(0, 0) = 3
            row(1, 0) = -9
            """);
    }

    @Edge(says = "(its PLACE (12: THROUGH), FAITH, those THROUGH, as a set) behind 1, 2, .. n STEPS, tried")
    static void rowsOfOneThroughAndOfOthers() {
        LightMan man = new LightMan();
        for (int i = 0; i < 8; i++) {
            man.goer(0, 50, i == 0 || i == 7 ? 11 : 5);
        }
        Edges.run(man, """
            bring(0, 12)
            prove(0, 1)
            row(0, 0) = 12
            row(0, 1) = 50
            row(0, 2) = 129
            prove(3, 7)
            row(0, 0) = 6
            row(0, 2) = 129
            row(5, 2) = 129
            row(6, 0) = 12
            row(6, 1) = 71
            row(6, 2) = 255
            state(0) = 0
            state(1) = 1
            """);
    }

    @Edge(promise = 33, says = "-9: there is none such, another what.")
    static void noSuchRow() {
        Edges.run("row(0, 0) = -9\n row(-1, 0) = -9\n row(MIN, 0) = -9\n row(MAX, 0) = -9");
        Edges.run("""
            goer(0, 50, 2)
            prove(0, 3)
            row(-1, 0) = -9
            row(0, 0) = 3
            row(2, 0) = 5
            row(3, 0) = -9
            row(9, 0) = -9
            row(0, -1) = -9
            row(0, 3) = -9
            row(2, 2) = 0
            row(0, MIN) = -9
            row(0, MAX) = -9
            """);
    }

    @Edge(promise = 34, says = "It becomes v: what it was. -9 likewise.")
    static void anyIntCanStandInARow() {
        Edges.run("alterRow(0, 0, 5) = -9\n many(4) = 0");
        Edges.run("""
            goer(0, 50, 2)
            prove(0, 2)
            alterRow(0, 0, MIN) = 3
            alterRow(0, 0, MAX) = -2147483648
            row(0, 0) = 2147483647
            alterRow(1, 2, -9) = 0
            alterRow(1, 2, 0) = -9
            alterRow(2, 0, 1) = -9
            alterRow(-1, 2, 1) = -9
            alterRow(0, 3, 1) = -9
            alterRow(1, -1, 1) = -9
            row(0, 1) = 53
            row(0, 2) = 0
            row(1, 0) = 4
            """);
    }

    @Edge(promise = 35, says = "0 all is right (also if there are none)")
    static void noRowsAreRight() {
        Edges.run("judge(0) = -1\n goer(0, 50, 2)\n judge(0) = 0\n judge(1) = -1\n judge(-1) = -1");
        Edges.run("goer(0, 50, 2)\n prove(0, 10)\n judge(0) = 0\n tell 'goer at 3;' = 1\n judge(0) = 0");
    }

    @Edge(promise = 35, says = "else the first ROW that isn't, and 1 more")
    static void theFirstAndTheLastRowThatIsWrong() {
        for (int what = 0; what < 3; what++) {
            LightMan man = Make.with(0, 50, 2);
            man.prove(0, 10);
            int last = man.alterRow(9, what, -5);
            DUE.is(10, man.judge(0), "judge(0), the last being wrong in " + what);
            man.alterRow(0, what, -5);
            DUE.is(1, man.judge(0), "judge(0), the first being wrong in " + what);
            man.alterRow(9, what, last);
            DUE.is(1, man.judge(0), "judge(0), the first alone being wrong in " + what);
        }
    }

    @Edge(says = "THE READER takes ROWS as those of one, from how it is now")
    static void rowsAreJudgedFromNow() {
        Edges.run("""
            goer(0, 50, 5)
            goer(0, 50, 5)
            goer(0, 51, 5)
            prove(0, 3)
            judge(1) = 0
            judge(2) = 1
            steps(1)
            judge(0) = 1
            bring(0, 5)
            trust(0, 50)
            judge(0) = 0
            bring(1, 9)
            judge(0) = 3
            bring(0, 12)
            prove(0, 3)
            steps(60)
            judge(0) = 1
            prove(0, 3)
            steps(60)
            judge(0) = 0
            """);
    }

    // ---- sheets

    private static LightMan eightWithSheet(int... items) {
        LightMan man = new LightMan();
        for (int i = 0; i < 8; i++) {
            man.goer(0, 50, 0);
        }
        Make.putAll(man, 0, 0, items);
        return man;
    }

    @Edge(promise = 36, says = "become FAITH of GOERS from one on (held to 0 to 99): n.")
    static void mindsAreHeld() {
        LightMan man = eightWithSheet(-128, -1, 0, 1, 98, 99, 100, 127);
        DUE.is(8, man.minds(0, 0, 0, 8), "minds(0, 0, 0, 8)");
        int[] faith = {0, 0, 0, 1, 98, 99, 99, 99};
        for (int i = 0; i < 8; i++) {
            DUE.is(faith[i], man.of(i, 1), "of(" + i + ", 1)");
        }
    }

    @Edge(promise = 36, says = "n numbers (0 to 8) of a SHEET taken for bytes, from i on")
    static void noNumbersAndEight() {
        Edges.run(eightWithSheet(1, 2, 3, 4, 5, 6, 7, 8, 9), """
            minds(0, 0, 0, 9) = -1
            minds(0, 0, 0, -1) = -1
            minds(0, 0, 7, 0) = 0
            state(3) = 400
            minds(0, 1, 0, 8) = 8
            state(3) = 44
            of(0, 1) = 2
            of(7, 1) = 9
            minds(0, 8, 7, 1) = 1
            minds(0, 0, 7, 1) = 1
            of(7, 1) = 1
            of(6, 1) = 8
            """);
    }

    @Edge(promise = 36, says = "BAD: no such SHEET, one, n, or n goes beyond the last one")
    static void mindsBeyondTheLastOne() {
        Edges.run(eightWithSheet(1, 2, 3, 4, 5, 6, 7, 8, 9), """
            minds(0, 0, 7, 1) = 1
            minds(0, 0, 7, 2) = -1
            minds(0, 0, 1, 8) = -1
            minds(0, 0, 1, 7) = 7
            minds(0, 0, 8, 0) = -1
            minds(0, 0, -1, 0) = -1
            minds(0, 0, MAX, 8) = -1
            minds(0, 0, MIN, 0) = -1
            minds(0, 0, 0, MAX) = -1
            minds(0, 0, 7, MAX) = -1
            minds(0, 0, 0, MIN) = -1
            minds(4, 0, 0, 1) = -1
            minds(-1, 0, 0, 1) = -1
            """);
        // Without GOERS there is none such, for no numbers either.
        Edges.run("sheet(0, 0, 3)\n minds(0, 0, 0, 0) = -1");
    }

    @Edge(promise = 36, says = "-12: i is not 0 to how many items there are (also for n 0), or there are not so many.")
    static void mindsBeyondTheLastItem() {
        Edges.run(eightWithSheet(1, 2, 3), """
            minds(0, 3, 0, 0) = 0
            minds(0, 4, 0, 0) = -12
            minds(0, -1, 0, 0) = -12
            minds(0, 0, 0, 3) = 3
            minds(0, 0, 0, 4) = -12
            minds(0, 1, 0, 2) = 2
            minds(0, 1, 0, 3) = -12
            minds(0, 3, 0, 1) = -12
            minds(0, MAX, 0, 0) = -12
            minds(0, MAX, 0, 8) = -12
            minds(0, MIN, 0, 0) = -12
            sheet(1, 0, 0)
            minds(1, 0, 0, 0) = 0
            minds(1, 0, 0, 1) = -12
            minds(1, 1, 0, 0) = -12
            """);
    }

    @Edge(promise = 36, says = "-11; -13; -12")
    static void mindsOfNothingAndOfAnotherSort() {
        Edges.run(eightWithSheet(1), """
            minds(3, 0, 0, 0) = -11
            minds(3, 99, 0, 8) = -11
            sheet(1, 1, 9)
            sheet(2, 2, 9)
            sheet(3, 3, 9)
            minds(1, 0, 0, 0) = -13
            minds(2, 99, 0, 8) = -13
            minds(3, -1, 0, 8) = -13
            minds(1, 0, 0, 9) = -1
            """);
    }

    @Edge(says = "SHEETS 0 to 3 are rows of bytes (sort 0), shorts (1), ints (2) or "
        + "longs (3), 40 at most, or missing (at first).")
    static void sheetsAreMissingAtFirst() {
        for (int sheet = 0; sheet < 4; sheet++) {
            Edges.run("""
                put(%1$d, 0, 1) = -11
                item(%1$d, 0, 0) = -11
                sheet(%1$d, 3, 40) = 1
                put(%1$d, 39, 1) = 1
                put(%1$d, 40, 1) = -12
                item(%1$d, 3, 39) = 1
                """.formatted(sheet));
        }
        Edges.run("sheet(-1, 0, 1) = -1\n sheet(4, 0, 1) = -1\n put(4, 0, 1) = -1\n put(-1, 0, 1) = -1");
    }

    @Edge(promise = 37, says = "A SHEET becomes a row of n of a sort, all 0")
    static void noItemsAndFortyOfEachSort() {
        for (int sort = 0; sort < 4; sort++) {
            LightMan man = new LightMan();
            man.shelf(0, 2, 0);
            DUE.is(1, man.sheet(0, sort, 40), "sheet(0, " + sort + ", 40)");
            for (int i = 0; i < 40; i++) {
                DUE.is(0, man.item(0, sort, i), "item(0, " + sort + ", " + i + ")");
                man.put(0, i, 7);
            }
            DUE.is(-12, man.item(0, sort, 40), "item(0, " + sort + ", 40)");
            DUE.is(1, man.sheet(0, sort, 40), "sheet(0, " + sort + ", 40) once more");
            DUE.is(0, man.item(0, sort, 0) + man.item(0, sort, 39), "items, all 0 once more");
            Edges.run(man, """
                sheet(0, %d, 0) = 1
                item(0, %d, 0) = -12
                shelf(0, 1, 0) = 1
                taken(0, %d) = 0
                """.formatted(sort, sort, 10 + sort));
        }
    }

    @Edge(promise = 37, says = "or missing (sort -1; n counts nothing then): 1.")
    static void aMissingSheetOfAnySize() {
        for (String n : new String[] {"0", "40", "41", "-1", "MIN", "MAX"}) {
            Edges.run("""
                sheet(0, 2, 5) = 1
                sheet(0, -1, %1$s) = 1
                item(0, 2, 0) = -11
                sheet(0, -1, %1$s) = 1
                """.formatted(n));
        }
    }

    @Edge(promise = 37, says = "BAD: no such SHEET, sort, n above 40; -14.")
    static void aSheetTooLargeAndBelowNothing() {
        Edges.run("""
            sheet(0, 0, 41) = -1
            sheet(0, 0, MAX) = -1
            sheet(0, 0, -1) = -14
            sheet(0, 3, MIN) = -14
            sheet(0, -2, 3) = -1
            sheet(0, 4, 3) = -1
            sheet(0, -2, -1) = -1
            sheet(0, 4, -1) = -1
            sheet(4, 0, -1) = -1
            sheet(4, -1, 0) = -1
            sheet(-1, -1, 0) = -1
            item(0, 0, 0) = -11
            """);
    }

    private static void narrows(int sort, int v, int want) {
        LightMan man = new LightMan();
        man.sheet(2, sort, 3);
        DUE.is(1, man.put(2, 1, v), "put(2, 1, " + v + ") of sort " + sort);
        DUE.is(want, man.item(2, sort, 1), "item(2, " + sort + ", 1) behind put of " + v);
        DUE.is(0, man.item(2, sort, 0) | man.item(2, sort, 2), "the items beside it");
    }

    @Edge(promise = 38, says = "Item i becomes v, narrowed to its sort: 1.")
    static void whatIsPutIsNarrowed() {
        int[][] bytes = {{127, 127}, {128, -128}, {255, -1}, {256, 0}, {-128, -128}, {-129, 127}, {MAX, -1}, {MIN, 0}};
        for (int[] each : bytes) {
            narrows(0, each[0], each[1]);
        }
        int[][] shorts = {{32767, 32767}, {32768, -32768}, {65535, -1}, {65536, 0}, {-32768, -32768}, {-32769, 32767},
            {MAX, -1}, {MIN, 0}};
        for (int[] each : shorts) {
            narrows(1, each[0], each[1]);
        }
        for (int v : new int[] {MAX, MIN, -1, 32768, 65536}) {
            narrows(2, v, v);
            narrows(3, v, v);
        }
    }

    @Edge(promise = 38, says = "BAD: no such SHEET; -11; -12.")
    static void putBesideTheItems() {
        Edges.run("""
            put(4, 0, 1) = -1
            put(-1, 0, 1) = -1
            put(3, 0, 1) = -11
            put(3, -1, 1) = -11
            sheet(3, 1, 2)
            put(3, -1, 1) = -12
            put(3, 0, 1) = 1
            put(3, 1, 1) = 1
            put(3, 2, 1) = -12
            put(3, MIN, 1) = -12
            put(3, MAX, 1) = -12
            sheet(3, 1, 0)
            put(3, 0, 1) = -12
            """);
    }

    @Edge(promise = 39, says = "taken for a sort (0 to 3; of longs the lowest 32 bits)")
    static void theLeastAndTheMostLong() {
        Edges.run("""
            sheet(0, 3, 2)
            put(0, 0, MIN)
            put(0, 1, MAX)
            item(0, 3, 0) = -2147483648
            item(0, 3, 1) = 2147483647
            item(0, 4, 0) = -1
            item(0, -1, 0) = -1
            """);
    }

    @Edge(promise = 39, says = "BAD: no such SHEET, sort; -11; -13; -12.")
    static void itemsThatAreNotThere() {
        Edges.run("""
            item(4, 0, 0) = -1
            item(-1, 0, 0) = -1
            item(0, 4, 0) = -1
            item(0, 0, 0) = -11
            item(0, 3, 99) = -11
            sheet(0, 1, 3)
            item(0, 0, 0) = -13
            item(0, 2, 3) = -13
            item(0, 3, -1) = -13
            item(0, 1, -1) = -12
            item(0, 1, 0) = 0
            item(0, 1, 2) = 0
            item(0, 1, 3) = -12
            item(0, 1, MIN) = -12
            item(0, 1, MAX) = -12
            """);
    }

    @Edge(promise = 39, says = "(An item may be as low as these, too.)")
    static void itemsAsLowAsRefusals() {
        for (int sort = 0; sort < 4; sort++) {
            for (int low : new int[] {-1, -2, -3, -11, -12, -13, -14}) {
                narrows(sort, low, low);
            }
        }
    }

    // ---- shelves

    @Edge(says = "SHELVES 0 to 3 hold one of the GOERS")
    static void shelvesHoldNothingAtFirst() {
        for (int shelf = 0; shelf < 4; shelf++) {
            Edges.run("""
                goer(0, 50, 5)
                taken(%1$d, 0) = -11
                taken(%1$d, 10) = -11
                act(%1$d, 0, 1) = 0
                shelf(%1$d, 0, 0) = 1
                taken(%1$d, 0) = 0
                taken(%2$d, 0) = -11
                """.formatted(shelf, (shelf + 1) % 4));
        }
        Edges.run("goer(0, 50, 5)\n shelf(4, 0, 0) = -1\n shelf(-1, 0, 0) = -1\n taken(4, 0) = -1\n taken(-1, 0) = -1");
    }

    @Edge(says = "(by its number; nothing, if there is no such one at the time)")
    static void oneOnAShelfMayGoAndComeAgain() {
        Edges.run("""
            goer(0, 50, 5)
            keep()
            goer(5, 50, 5)
            shelf(0, 0, 1) = 1
            taken(0, 5) = 1
            act(0, 0, 4) = 11
            again() = 1
            taken(0, 5) = -11
            taken(0, 10) = -11
            act(0, 0, 4) = 0
            many(6) = 0
            goer(1, 50, 5) = 1
            taken(0, 5) = -13
            taken(0, 1) = 1
            tunnel() = 0
            taken(0, 0) = -11
            """);
    }

    @Edge(promise = 40, says = "A SHELF holds one of the GOERS (what 0, its number n), the row of "
        + "SHEET n (1; nothing, if missing), nothing (2): 1.")
    static void aShelfOfAMissingSheet() {
        Edges.run("""
            goer(0, 50, 5)
            shelf(0, 0, 0) = 1
            shelf(0, 1, 3) = 1
            taken(0, 0) = -11
            taken(0, 13) = -11
            sheet(3, 3, 0)
            taken(0, 13) = -11
            shelf(0, 1, 3) = 1
            taken(0, 13) = 0
            shelf(0, 2, MAX) = 1
            taken(0, 13) = -11
            shelf(0, 2, -1) = 1
            shelf(0, 0, 0) = 1
            taken(0, 0) = 0
            taken(0, 13) = -13
            """);
    }

    @Edge(promise = 40, says = "BAD: no such SHELF, what, thing.")
    static void noSuchThingForAShelf() {
        Edges.run("""
            shelf(0, 0, 0) = -1
            shelf(0, 1, 0) = 1
            shelf(0, 1, 3) = 1
            shelf(0, 1, 4) = -1
            shelf(0, 1, -1) = -1
            """);
        LightMan man = eightWithSheet(1);
        Edges.run(man, """
            shelf(0, 0, 7) = 1
            shelf(0, 0, 8) = -1
            shelf(0, 0, -1) = -1
            shelf(0, 3, 0) = -1
            shelf(0, -1, 0) = -1
            shelf(3, 0, 0) = 1
            shelf(4, 2, 0) = -1
            shelf(-1, 2, 0) = -1
            taken(0, 0) = 7
            bring(7, 12)
            shelf(1, 0, 7) = 1
            """);
    }

    @Edge(promise = 41, says = "What a SHELF holds taken for a thing of KIND as (0 to 5, or one under it): its number")
    static void takenForEachKindAboveAndBeside() {
        // Which kinds are not above it, nor it.
        int[][] not = {{1, 2, 3, 4, 5}, {2, 3, 4, 5}, {1, 3, 4, 5}, {2, 4, 5}, {1, 3, 5}, {1, 2, 3, 4}};
        LightMan man = Make.allKindsAt(5);
        for (int kind = 0; kind < 6; kind++) {
            man.shelf(2, 0, kind);
            int refused = 0;
            for (int as = 0; as < 6; as++) {
                int beside = as;
                boolean isNot = Arrays.stream(not[kind]).anyMatch(k -> k == beside);
                DUE.is(isNot ? -13 : kind, man.taken(2, as), "taken(2, " + as + ") of kind " + kind);
                refused += isNot ? 1 : 0;
            }
            DUE.is(not[kind].length, refused, "kinds beside it");
        }
    }

    @Edge(promise = 41, says = "for a row of sort as - 10 (as 10 to 13): how many items")
    static void rowsOfNoItemsAndOfForty() {
        for (int sort = 0; sort < 4; sort++) {
            Edges.run("""
                sheet(1, %1$d, 0)
                shelf(3, 1, 1)
                taken(3, 1%1$d) = 0
                sheet(1, %1$d, 40)
                shelf(3, 1, 1)
                taken(3, 1%1$d) = 40
                taken(3, 1%2$d) = -13
                taken(3, %1$d) = -13
                taken(3, 9) = -1
                taken(3, 14) = -1
                """.formatted(sort, (sort + 1) % 4));
        }
    }

    @Edge(promise = 41, says = "BAD: no such SHELF, as; -11; -13.")
    static void takenForNothingThatThereIs() {
        Edges.run("""
            taken(0, -1) = -1
            taken(0, 0) = -11
            taken(0, 5) = -11
            taken(0, 6) = -1
            taken(0, 9) = -1
            taken(0, 10) = -11
            taken(0, 13) = -11
            taken(0, 14) = -1
            taken(0, MIN) = -1
            taken(0, MAX) = -1
            taken(3, 0) = -11
            taken(4, 0) = -1
            taken(-1, 0) = -1
            """);
    }

    // ---- acts

    private static void acts(int want, int kind, int number, int place, int act, int x) {
        LightMan man = new LightMan();
        for (int i = 0; i <= number; i++) {
            man.goer(kind, 50, 5);
        }
        man.bring(number, place);
        man.shelf(1, 0, number);
        DUE.is(want, man.act(1, act, x),
            "act " + act + " with " + x + " of kind " + kind + ", number " + number + " AT " + place);
    }

    @Edge(says = "ACTS of things, with a number x (ints that wrap)")
    static void actsWrap() {
        acts(MAX * 3, 0, 0, 5, 0, MAX);
        acts(MIN * 3 - 7, 0, 7, 5, 0, MIN);
        acts(MIN * 3 - 1, 0, 1, 5, 0, MIN);
        acts(MIN, 0, 1, 0, 2, MIN);
        acts(-MAX, 0, 1, 0, 2, MAX);
        // A stoker's x + 4 and what it is times n, a mourner's twice.
        acts((MAX + 4) / 4 * 3, 3, 3, 7, 2, MAX);
        acts((MAX * 3 - 2) * 2, 2, 2, 5, 0, MAX);
    }

    @Edge(says = "a: its PLACE (12: THROUGH)")
    static void anActOfOneThrough() {
        acts(72, 0, 0, 12, 1, 0);
        acts(2, 0, 0, 12, 2, 24);
        acts(-7, 0, 7, 0, 1, 0);
    }

    @Edge(says = "x by (a - n), cut")
    static void partsAreCutTowardsNothing() {
        acts(1, 0, 0, 5, 2, 9);
        acts(-1, 0, 0, 5, 2, -9);
        acts(0, 0, 0, 5, 2, -4);
        acts(0, 0, 0, 5, 2, 4);
        acts(-1, 0, 5, 0, 2, 9);
        acts(1, 0, 5, 0, 2, -9);
        acts(3, 0, 7, 6, 2, -3);
    }

    @Edge(says = "Quotients are cut towards 0.")
    static void quotientsBelowNothingAreCutUp() {
        acts(-1, 0, 0, 7, 2, -13);
        acts(-2, 0, 0, 7, 2, -14);
        acts(-3, 3, 3, 7, 2, -11);
    }

    @Edge(says = "(-15 if these are the same; that is all that act() answers then)")
    static void partedByNothing() {
        for (int number = 0; number < 8; number++) {
            for (int kind = 0; kind < 6; kind++) {
                acts(-15, kind, number, number, 2, 100);
                acts(-15, kind, number, number, 2, 0);
            }
            // A mourner's and a widow's comes has parts in it, the others' has not.
            acts(-15, 2, number, number, 3, 100);
            acts(-15, 4, number, number, 3, MIN);
            acts(300 - number + 6 * number ^ 200, 0, number, number, 3, 100);
            acts((300 - number + 6 * number ^ 200) - 8, 5, number, number, 3, 100);
        }
        acts(0, 3, 0, 5, 2, 1);
        Edges.run("""
            goer(0, 50, 0)
            shelf(0, 0, 0)
            act(0, 2, 7) = -15
            act(0, 0, 7) = 21
            bring(0, 1)
            act(0, 2, 7) = 7
            """);
    }

    @Edge(promise = 42, says = "0, and no TRACE then: no such SHELF, act, nothing, a row.")
    static void anActOfNothing() {
        LightMan man = eightWithSheet(1);
        man.shelf(0, 0, 7);
        man.shelf(3, 1, 0);
        String[] calls = {"act(-1, 0, 5)", "act(4, 0, 5)", "act(MIN, 0, 5)", "act(MAX, 0, 5)", "act(0, -1, 5)",
            "act(0, 4, 5)", "act(0, MIN, 5)", "act(0, MAX, 5)", "act(1, 0, 5)", "act(3, 0, 5)", "act(3, 3, 5)"};
        for (String call : calls) {
            Edges.run(man, "act(0, 3, 5) = 192\n many(6) = 3\n " + call + " = 0\n many(6) = 0\n trace(0) = -3");
        }
        Edges.run(man, "act(0, 0, 5) = 8\n act(0, 3, 5) = 192\n trace(2) = 10");
    }

    @Edge(says = "THE TRACE: numbers of the bodies that ran in the latest act(), as "
        + "they began (left first); the first 30 are kept.")
    static void theLongestTraceAndAShorterOneBehindIt() {
        LightMan man = Make.with(4, 50, 9);
        man.shelf(0, 0, 0);
        man.act(0, 3, 10);
        int[] bodies = {31, 13, 41, 11, 40, 30, 10, 40, 30, 10, 12};
        for (int i = 0; i < bodies.length; i++) {
            DUE.is(bodies[i], man.trace(i), "trace(" + i + ")");
        }
        Edges.run(man, "many(6) = 11\n trace(11) = -3\n act(0, 2, 10)\n many(6) = 1\n trace(0) = 12\n trace(1) = -3");
    }

    @Edge(promise = 43, says = "THE TRACE's i-th body. NONE.")
    static void noSuchBody() {
        Edges.run("trace(0) = -3\n trace(-1) = -3\n trace(MAX) = -3");
        Edges.run("""
            goer(0, 50, 5)
            shelf(0, 0, 0)
            act(0, 1, 1) = 33
            trace(-1) = -3
            trace(0) = 11
            trace(1) = 10
            trace(2) = -3
            trace(29) = -3
            trace(30) = -3
            trace(MIN) = -3
            trace(MAX) = -3
            """);
    }

    // ---- counts, and what is kept

    @Edge(promise = 44, says = "BAD: another what.")
    static void manyOfAnotherWhat() {
        Edges.run("many(-1) = -1\n many(0) = 0\n many(6) = 0\n many(7) = -1\n many(MIN) = -1\n many(MAX) = -1");
    }

    @Edge(promise = 44, says = "3 those that have SEEN him ever (MOVED above 0)")
    static void countsOfEight() {
        LightMan man = eightWithSheet(1);
        for (int i = 0; i < 8; i++) {
            man.bring(i, 11);
        }
        Edges.run(man, """
            many(0) = 8
            many(1) = 0
            many(2) = 8
            many(3) = 0
            steps(1)
            many(1) = 8
            many(2) = 0
            many(3) = 8
            prove(0, 10)
            many(4) = 10
            bring(0, 0)
            many(1) = 7
            many(3) = 8
            """);
    }

    @Edge(promise = 45, says = "All but THE TAPE, ROWS, SHEETS, SHELVES, THE TRACE is kept: 1.")
    static void whatIsNotKeptStays() {
        LightMan man = Make.rich();
        Edges.run(man, """
            keep() = 1
            seed(3)
            again() = 5
            seed(3) = 4711
            state(0) = 1
            lawOf(0) = 4
            rosterOf(2, 0) = 7
            rosterOf(5, 1) = 8
            of(1, 1) = 77
            of(1, 3) = 1
            tell '' = 1
            prove(0, 2)
            alterRow(0, 0, 99)
            sheet(0, 3, 9)
            put(0, 8, 6)
            shelf(3, 1, 0)
            shelf(0, 0, 0)
            act(0, 2, 3)
            feed(0x21, 1)
            again() = 5
            many(4) = 2
            row(0, 0) = 99
            item(0, 3, 8) = 6
            taken(3, 13) = 9
            taken(0, 0) = 0
            many(6) = 1
            many(5) = 1
            tunnel() = -100
            """);
    }

    @Edge(promise = 45, says = "is kept: 1.")
    static void nobodyAndEightAreKept() {
        Edges.run("keep() = 1\n goer(0, 50, 0)\n again() = 0\n of(0, 0) = -1");
        Edges.run(eightWithSheet(1), "keep() = 1\n tunnel() = 0\n again() = 8\n of(7, 1) = 50\n goer(0, 0, 0) = -2");
    }

    @Edge(promise = 46, says = "It becomes what was kept latest (which stays): how many GOERS.")
    static void theLatestStays() {
        Edges.run("""
            goer(0, 50, 0)
            keep() = 1
            goer(0, 50, 0)
            keep() = 1
            goer(0, 50, 0)
            again() = 2
            trust(1, 60)
            steps(9)
            goer(0, 50, 0)
            again() = 2
            of(1, 1) = 50
            of(1, 3) = 0
            state(0) = 0
            tell 'goer at 3;' = 1
            again() = 2
            again() = 2
            """);
    }

    @Edge(promise = 46, says = "NONE: nothing is kept.")
    static void againOfNothing() {
        Edges.refuses(ThingEdges::withNothingKept, -3, "again()");
        Edges.run(withNothingKept(), "again() = -3\n again() = -3\n keep() = 1\n again() = 5");
    }

    /** As the rich one, without what it keeps. */
    private static LightMan withNothingKept() {
        LightMan man = eightWithSheet(3, 4);
        Edges.run(man, "tell 'goer at 5; goer at 6; child at 0; widow at 3 faith 6; driver at 11; fog 2 is 8; hum 8;'");
        Edges.run(man, """
            steps(1)
            prove(0, 5)
            shelf(0, 0, 0)
            shelf(1, 1, 0)
            act(0, 1, 8)
            seed(44)
            feed(0x20, 1)
            """);
        return man;
    }
}
