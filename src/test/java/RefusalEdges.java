import java.util.function.Supplier;

/** Every refused call changes nothing, and of several refusals the first named is answered. */
final class RefusalEdges {
    private RefusalEdges() {
    }

    /** Calls on the rich one, whose GOERS are 0 to 4, the last THROUGH; SHEET 2 is missing, SHELF 3 empty. */
    private static void refuses(long answer, String... calls) {
        Edges.refuses(Make::rich, answer, calls);
    }

    private static void bad(String... calls) {
        refuses(-1, calls);
    }

    private static LightMan richWithEight() {
        LightMan man = Make.rich();
        for (int i = 0; i < 3; i++) {
            man.goer(2, 33, 4);
        }
        return man;
    }

    @Edge(promise = 2, says = "BAD; FULL: more than 200.")
    static void feed() {
        bad("feed(0x20, 0)", "feed(0x20, -1)", "feed(0x20, 9)", "feed(0x20, MIN)", "feed(0x20, MAX)");
    }

    @Edge(promise = 4, says = "BAD.")
    static void set() {
        bad("set(-1, 0)", "set(4, 0)", "set(MIN, 0)", "set(MAX, 0)", "set(0, -1)", "set(0, 10)", "set(1, -1)",
            "set(1, 100)", "set(2, -1)", "set(2, 100)", "set(3, -1)", "set(3, 100)", "set(0, MIN)", "set(3, MAX)");
    }

    @Edge(promise = 5, says = "BAD.")
    static void lawOf() {
        bad("lawOf(-1)", "lawOf(4)", "lawOf(MIN)", "lawOf(MAX)");
    }

    @Edge(promise = 6, says = "BAD.")
    static void roster() {
        bad("roster(-1, 0, 1)", "roster(6, 1, 1)", "roster(MIN, 0, 1)", "roster(MAX, 0, 1)", "roster(0, -1, 1)",
            "roster(0, 2, 1)", "roster(0, MIN, 1)", "roster(0, MAX, 1)", "roster(0, 0, -1)", "roster(0, 0, 10)",
            "roster(5, 1, -1)", "roster(5, 1, 10)", "roster(0, 0, MIN)", "roster(0, 1, MAX)");
    }

    @Edge(promise = 7, says = "BAD.")
    static void rosterOf() {
        bad("rosterOf(-1, 0)", "rosterOf(6, 1)", "rosterOf(0, -1)", "rosterOf(0, 2)", "rosterOf(MIN, 0)",
            "rosterOf(MAX, 0)", "rosterOf(0, MIN)", "rosterOf(0, MAX)");
    }

    @Edge(promise = 8, says = "BAD; FULL.")
    static void goer() {
        bad("goer(-1, 50, 5)", "goer(6, 50, 5)", "goer(0, -1, 5)", "goer(0, 100, 5)", "goer(0, 50, -1)",
            "goer(0, 50, 12)", "goer(MIN, 50, 5)", "goer(MAX, 50, 5)", "goer(0, MIN, 5)", "goer(0, MAX, 5)",
            "goer(0, 50, MIN)", "goer(0, 50, MAX)");
        Edges.refuses(RefusalEdges::richWithEight, -2, "goer(0, 50, 5)", "goer(5, 0, 0)", "goer(5, 99, 11)");
    }

    @Edge(promise = 9, says = "BAD.")
    static void of() {
        bad("of(-1, 0)", "of(5, 0)", "of(MIN, 0)", "of(MAX, 0)", "of(0, -1)", "of(0, 5)", "of(0, MIN)", "of(0, MAX)");
    }

    @Edge(promise = 10, says = "BAD; NONE: it is THROUGH.")
    static void does() {
        bad("does(-1, 0)", "does(5, 0)", "does(MIN, 0)", "does(MAX, 0)", "does(0, -1)", "does(0, 4)", "does(0, MIN)",
            "does(0, MAX)");
        refuses(-3, "does(4, 0)", "does(4, 1)", "does(4, 2)", "does(4, 3)");
    }

    @Edge(promise = 11, says = "BAD.")
    static void mind() {
        bad("mind(-1, 0)", "mind(5, 0)", "mind(MIN, 0)", "mind(MAX, 0)", "mind(0, -1)", "mind(0, 6)", "mind(0, MIN)",
            "mind(0, MAX)");
    }

    @Edge(promise = 12, says = "BAD.")
    static void trust() {
        bad("trust(-1, 5)", "trust(5, 5)", "trust(MIN, 5)", "trust(MAX, 5)", "trust(0, -1)", "trust(0, 100)",
            "trust(0, MIN)", "trust(0, MAX)");
    }

    @Edge(promise = 13, says = "BAD.")
    static void bring() {
        bad("bring(-1, 5)", "bring(5, 5)", "bring(MIN, 5)", "bring(MAX, 5)", "bring(0, -1)", "bring(0, 13)",
            "bring(0, MIN)", "bring(0, MAX)");
    }

    @Edge(promise = 14, says = "BAD.")
    static void steps() {
        bad("steps(0)", "steps(-1)", "steps(61)", "steps(MIN)", "steps(MAX)");
    }

    @Edge(promise = 17, says = "BAD.")
    static void luck() {
        bad("luck(0)", "luck(-1)", "luck(31)", "luck(MIN)", "luck(MAX)");
    }

    @Edge(promise = 18, says = "BAD.")
    static void state() {
        bad("state(-1)", "state(6)", "state(MIN)", "state(MAX)");
    }

    @Edge(promise = 19, says = "BAD.")
    static void where() {
        bad("where(-1, 1)", "where(5, 1)", "where(MIN, 1)", "where(MAX, 1)", "where(0, -1)", "where(0, 61)",
            "where(0, MIN)", "where(0, MAX)", "where(4, 61)");
    }

    @Edge(promise = 20, says = "BAD; NONE: not by then.")
    static void comes() {
        bad("comes(-1)", "comes(5)", "comes(MIN)", "comes(MAX)");
        Edges.refuses(() -> Make.with(0, 99, 5), -3, "comes(0)");
    }

    @Edge(promise = 21, says = "BAD; NONE: not by then.")
    static void sits() {
        bad("sits(-1)", "sits(5)", "sits(MIN)", "sits(MAX)");
        refuses(-3, "sits(4)");
    }

    @Edge(promise = 22, says = "BAD; NONE: not by then.")
    static void back() {
        bad("back(-1)", "back(5)", "back(MIN)", "back(MAX)");
        refuses(-3, "back(4)");
    }

    @Edge(promise = 23, says = "BAD.")
    static void passed() {
        bad("passed(-1)", "passed(61)", "passed(MIN)", "passed(MAX)");
    }

    @Edge(promise = 24, says = "BAD.")
    static void armsFor() {
        bad("armsFor(-1, 1)", "armsFor(6, 1)", "armsFor(MIN, 1)", "armsFor(MAX, 1)", "armsFor(0, 0)", "armsFor(0, 41)",
            "armsFor(0, -1)", "armsFor(0, MIN)", "armsFor(0, MAX)");
    }

    @Edge(promise = 25, says = "BAD; NONE: through none.")
    static void fogFor() {
        bad("fogFor(-1, 0, 1)", "fogFor(6, 0, 1)", "fogFor(MIN, 0, 1)", "fogFor(MAX, 0, 1)", "fogFor(0, -1, 1)",
            "fogFor(0, 5, 1)", "fogFor(0, MIN, 1)", "fogFor(0, MAX, 1)", "fogFor(0, 0, -1)", "fogFor(0, 0, 41)",
            "fogFor(0, 0, MIN)", "fogFor(0, 0, MAX)");
        refuses(-3, "fogFor(0, 0, 0)", "fogFor(0, 0, 3)");
    }

    @Edge(promise = 26, says = "BAD; NONE: with none.")
    static void faithFor() {
        bad("faithFor(-1, 1)", "faithFor(5, 1)", "faithFor(MIN, 1)", "faithFor(MAX, 1)", "faithFor(0, -1)",
            "faithFor(0, 41)", "faithFor(0, MIN)", "faithFor(0, MAX)");
        refuses(-3, "faithFor(0, 0)", "faithFor(0, 3)");
    }

    @Edge(promise = 27, says = "BAD.")
    static void kindFor() {
        bad("kindFor(-1)", "kindFor(5)", "kindFor(MIN)", "kindFor(MAX)");
    }

    @Edge(promise = 28, says = "BAD; NONE: by no set.")
    static void liftedFor() {
        bad("liftedFor(-1, 0)", "liftedFor(41, 0)", "liftedFor(MIN, 0)", "liftedFor(MAX, 0)", "liftedFor(0, -1)",
            "liftedFor(0, 9)", "liftedFor(0, MIN)", "liftedFor(0, MAX)");
        refuses(-3, "liftedFor(40, 6)", "liftedFor(0, 2)", "liftedFor(3, 5)", "liftedFor(40, 8)");
    }

    @Edge(promise = 29, says = "BAD: no such SHEET, one, what; -11; NONE (what 1): none.")
    static void fits() {
        bad("fits(-1, 0, 0)", "fits(4, 0, 0)", "fits(MIN, 0, 0)", "fits(MAX, 0, 0)", "fits(0, -1, 0)",
            "fits(0, 5, 0)", "fits(0, MIN, 0)", "fits(0, MAX, 0)", "fits(0, 0, -1)", "fits(0, 0, 2)",
            "fits(0, 0, MIN)", "fits(0, 0, MAX)");
        refuses(-11, "fits(2, 0, 0)", "fits(2, 0, 1)");
        refuses(-3, "fits(0, 0, 1)");
    }

    @Edge(promise = 30, says = "BAD.")
    static void odds() {
        bad("odds(-1, 0, 0)", "odds(9, 0, 0)", "odds(MIN, 0, 0)", "odds(MAX, 0, 0)", "odds(3, -1, 0)",
            "odds(3, 4, 0)", "odds(3, MIN, 0)", "odds(3, MAX, 0)", "odds(3, 0, -1)", "odds(3, 0, 2)",
            "odds(3, 0, MIN)", "odds(3, 0, MAX)", "odds(-1, -1, 0)");
    }

    @Edge(promise = 31, says = "BAD.")
    static void hope() {
        bad("hope(-1, 0)", "hope(100, 0)", "hope(MIN, 0)", "hope(MAX, 0)", "hope(1, -1)", "hope(1, 2)", "hope(1, MIN)",
            "hope(1, MAX)");
    }

    @Edge(promise = 32, says = "BAD.")
    static void prove() {
        bad("prove(-1, 1)", "prove(5, 1)", "prove(MIN, 1)", "prove(MAX, 1)", "prove(0, 0)", "prove(0, -1)",
            "prove(0, 11)", "prove(0, MIN)", "prove(0, MAX)");
    }

    @Edge(promise = 33, says = "-9: there is none such, another what.")
    static void row() {
        refuses(-9, "row(-1, 0)", "row(4, 0)", "row(MIN, 0)", "row(MAX, 0)", "row(0, -1)", "row(0, 3)", "row(0, MIN)",
            "row(0, MAX)");
    }

    @Edge(promise = 34, says = "-9 likewise.")
    static void alterRow() {
        refuses(-9, "alterRow(-1, 0, 1)", "alterRow(4, 0, 1)", "alterRow(MIN, 0, 1)", "alterRow(MAX, 0, 1)",
            "alterRow(0, -1, 1)", "alterRow(0, 3, 1)", "alterRow(0, MIN, 1)", "alterRow(0, MAX, 1)",
            "alterRow(1, -1, 1)", "alterRow(-1, 3, 1)");
    }

    @Edge(promise = 35, says = "BAD.")
    static void judge() {
        bad("judge(-1)", "judge(5)", "judge(MIN)", "judge(MAX)");
    }

    @Edge(promise = 36, says = "BAD: no such SHEET, one, n, or n goes beyond the last one; -11; -13; -12")
    static void minds() {
        bad("minds(-1, 0, 0, 1)", "minds(4, 0, 0, 1)", "minds(MIN, 0, 0, 1)", "minds(MAX, 0, 0, 1)",
            "minds(0, 0, -1, 1)", "minds(0, 0, 5, 1)", "minds(0, 0, MIN, 1)", "minds(0, 0, MAX, 1)",
            "minds(0, 0, 0, -1)", "minds(0, 0, 0, 9)", "minds(0, 0, 0, MIN)", "minds(0, 0, 0, MAX)",
            "minds(0, 0, 4, 2)", "minds(0, 0, 0, 6)");
        refuses(-11, "minds(2, 0, 0, 1)");
        refuses(-13, "minds(1, 0, 0, 1)", "minds(3, 0, 0, 1)");
        refuses(-12, "minds(0, -1, 0, 1)", "minds(0, 3, 0, 1)", "minds(0, 0, 0, 4)", "minds(0, 2, 0, 2)",
            "minds(0, 4, 0, 0)", "minds(0, -1, 0, 0)", "minds(0, MIN, 0, 1)", "minds(0, MAX, 0, 1)",
            "minds(0, MAX, 0, 5)");
    }

    @Edge(promise = 37, says = "BAD: no such SHEET, sort, n above 40; -14.")
    static void sheet() {
        bad("sheet(-1, 0, 1)", "sheet(4, 0, 1)", "sheet(MIN, 0, 1)", "sheet(MAX, 0, 1)", "sheet(0, -2, 1)",
            "sheet(0, 4, 1)", "sheet(0, MIN, 1)", "sheet(0, MAX, 1)", "sheet(0, 0, 41)", "sheet(0, 3, MAX)",
            "sheet(4, -1, 1)");
        refuses(-14, "sheet(0, 0, -1)", "sheet(0, 3, MIN)", "sheet(2, 1, -1)");
    }

    @Edge(promise = 38, says = "BAD: no such SHEET; -11; -12.")
    static void put() {
        bad("put(-1, 0, 1)", "put(4, 0, 1)", "put(MIN, 0, 1)", "put(MAX, 0, 1)");
        refuses(-11, "put(2, 0, 1)");
        refuses(-12, "put(0, -1, 1)", "put(0, 3, 1)", "put(0, MIN, 1)", "put(0, MAX, 1)", "put(1, 4, 1)",
            "put(3, 2, 1)");
    }

    @Edge(promise = 39, says = "BAD: no such SHEET, sort; -11; -13; -12.")
    static void item() {
        bad("item(-1, 0, 0)", "item(4, 0, 0)", "item(MIN, 0, 0)", "item(MAX, 0, 0)", "item(0, -1, 0)", "item(0, 4, 0)",
            "item(0, MIN, 0)", "item(0, MAX, 0)");
        refuses(-11, "item(2, 0, 0)");
        refuses(-13, "item(0, 1, 0)", "item(0, 2, 0)", "item(0, 3, 0)", "item(1, 3, 0)", "item(3, 2, 0)");
        refuses(-12, "item(0, 0, -1)", "item(0, 0, 3)", "item(1, 2, 4)", "item(3, 3, 2)", "item(0, 0, MIN)",
            "item(0, 0, MAX)");
    }

    @Edge(promise = 40, says = "BAD: no such SHELF, what, thing.")
    static void shelf() {
        bad("shelf(-1, 0, 0)", "shelf(4, 0, 0)", "shelf(MIN, 2, 0)", "shelf(MAX, 2, 0)", "shelf(0, -1, 0)",
            "shelf(0, 3, 0)", "shelf(0, MIN, 0)", "shelf(0, MAX, 0)", "shelf(0, 0, -1)", "shelf(0, 0, 5)",
            "shelf(0, 0, MIN)", "shelf(0, 0, MAX)", "shelf(0, 1, -1)", "shelf(0, 1, 4)", "shelf(1, 1, MIN)",
            "shelf(1, 1, MAX)");
    }

    @Edge(promise = 41, says = "BAD: no such SHELF, as; -11; -13.")
    static void taken() {
        bad("taken(-1, 0)", "taken(4, 0)", "taken(MIN, 0)", "taken(MAX, 0)", "taken(0, -1)", "taken(0, 6)",
            "taken(0, 9)", "taken(0, 14)", "taken(0, MIN)", "taken(0, MAX)", "taken(1, 9)", "taken(1, 14)");
        refuses(-11, "taken(3, 0)", "taken(3, 13)");
        refuses(-13, "taken(0, 1)", "taken(0, 10)", "taken(1, 11)", "taken(1, 0)", "taken(2, 3)");
    }

    @Edge(promise = 42, says = "0, and no TRACE then: no such SHELF, act, nothing, a row.")
    static void act() {
        Supplier<LightMan> withoutTrace = () -> {
            LightMan man = Make.rich();
            man.act(3, 0, 1);
            return man;
        };
        Edges.refuses(withoutTrace, 0, "act(-1, 0, 5)", "act(4, 0, 5)", "act(MIN, 0, 5)", "act(MAX, 0, 5)",
            "act(0, -1, 5)", "act(0, 4, 5)", "act(0, MIN, 5)", "act(0, MAX, 5)", "act(3, 0, 5)", "act(1, 0, 5)",
            "act(1, 2, 5)");
    }

    @Edge(promise = 43, says = "NONE.")
    static void trace() {
        refuses(-3, "trace(-1)", "trace(11)", "trace(30)", "trace(MIN)", "trace(MAX)");
    }

    @Edge(promise = 44, says = "BAD: another what.")
    static void many() {
        bad("many(-1)", "many(7)", "many(MIN)", "many(MAX)");
    }

    @Edge(promise = 3, says = "-100 less its FAULT")
    static void tunnel() {
        Supplier<LightMan> faulty = () -> {
            LightMan man = Make.richWithoutTape();
            Due.feedAll(man, "hum 7; goer at 3; goer");
            return man;
        };
        LightMan man = faulty.get();
        Edges.DUE.is(-122, man.tunnel(), "tunnel()");
        Edges.isSeenAs(Seen.of(Make.richWithoutTape()), man, "tunnel()");
    }

    @Edge(promise = 1, says = "No GOERS")
    static void allThatAsksForOneWhereThereIsNone() {
        Edges.refuses(LightMan::new, -1, "of(0, 0)", "does(0, 0)", "mind(0, 0)", "trust(0, 0)", "bring(0, 0)",
            "where(0, 0)", "comes(0)", "sits(0)", "back(0)", "fogFor(0, 0, 0)", "faithFor(0, 0)", "kindFor(0)",
            "fits(0, 0, 0)", "prove(0, 1)", "judge(0)", "minds(0, 0, 0, 0)", "shelf(0, 0, 0)");
        Edges.refuses(LightMan::new, -3, "liftedFor(40, 1)", "again()", "trace(0)");
        Edges.refuses(LightMan::new, -9, "row(0, 0)", "alterRow(0, 0, 0)");
        Edges.refuses(LightMan::new, -11, "put(0, 0, 0)", "item(0, 0, 0)", "taken(0, 0)");
    }

    // ---- of several the first named

    @Edge(says = "of several the first named")
    static void badStandsBeforeFullAndNone() {
        Edges.refuses(RefusalEdges::richWithEight, -1, "goer(6, 50, 5)", "goer(0, 100, 5)", "goer(0, 50, 12)");
        bad("does(4, 4)", "does(4, -1)", "comes(5)", "fogFor(6, 0, 0)", "fogFor(0, 5, 0)", "faithFor(5, 0)",
            "liftedFor(41, 8)", "liftedFor(0, 9)");
        LightMan full = new LightMan();
        Due.feedAll(full, " ".repeat(200));
        Edges.run(full, "feed(0, 9) = -1\n feed(0, 0) = -1\n feed(0, MAX) = -1\n feed(0, 1) = -2");
    }

    @Edge(says = "of several the first named")
    static void badStandsBeforeWhatTheHostRefuses() {
        bad("fits(2, 5, 0)", "fits(2, 0, 2)", "minds(2, 0, 5, 0)", "minds(2, 0, 0, 9)", "minds(1, 99, 4, 2)",
            "minds(0, 99, 0, 6)", "sheet(4, 0, -1)", "sheet(0, 4, -1)", "sheet(0, -2, -1)", "put(4, -1, 0)",
            "item(2, 4, 0)", "item(1, 4, 99)", "taken(3, 6)", "taken(3, 14)", "taken(4, 0)", "shelf(4, 0, 99)");
    }

    @Edge(says = "of several the first named")
    static void nothingStandsBeforeAnotherSortAndThatBeforeOutside() {
        refuses(-11, "minds(2, 99, 0, 1)", "minds(2, -1, 0, 1)", "put(2, -1, 0)", "put(2, 99, 0)", "item(2, 3, 99)",
            "item(2, 0, -1)");
        refuses(-13, "minds(1, 99, 0, 1)", "minds(3, -1, 0, 0)", "item(1, 0, 99)", "item(0, 3, -1)");
    }
}
