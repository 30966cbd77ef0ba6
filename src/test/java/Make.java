/** Objects that several tests begin with. */
final class Make {
    private Make() {
    }

    static LightMan with(int kind, int faith, int place) {
        LightMan man = new LightMan();
        man.goer(kind, faith, place);
        return man;
    }

    /** One of each KIND, its number that of the KIND, AT one PLACE. */
    static LightMan allKindsAt(int place) {
        LightMan man = new LightMan();
        for (int kind = 0; kind < 6; kind++) {
            man.goer(kind, 50, place);
        }
        return man;
    }

    static void rosterAll(LightMan man, int fog, int arms) {
        for (int rest = 0; rest < 6; rest++) {
            man.roster(rest, 0, fog);
            man.roster(rest, 1, arms);
        }
    }

    /**
     * A driver in the fog whose FAITH, 0 at first, is 1 more in each STEP: it stays AT 0 till that is DREAD,
     * and is THROUGH by 3 STEPS more.
     */
    static LightMan driverWithDread(int dread) {
        LightMan man = with(1, 0, 0);
        rosterAll(man, 9, 0);
        man.set(1, dread);
        return man;
    }

    /** One that has something of everything that can change, so that a change of it can be seen. */
    static LightMan rich() {
        LightMan man = richWithoutTape();
        Due.feedAll(man, "hum 7;widow at 3 faith 8;");
        return man;
    }

    static LightMan richWithoutTape() {
        LightMan man = new LightMan();
        int[][] goers = {{0, 14, 0}, {1, 70, 8}, {4, 60, 3}, {5, 40, 7}, {3, 30, 11}};
        for (int[] g : goers) {
            man.goer(g[0], g[1], g[2]);
        }
        man.set(0, 4);
        man.set(3, 60);
        man.roster(2, 0, 7);
        man.roster(5, 1, 8);
        man.seed(815);
        man.keep();
        man.steps(1);
        man.seed(4711);
        man.prove(2, 4);
        man.alterRow(1, 1, 55);
        putAll(man, 0, 0, 11, -7, 120);
        putAll(man, 1, 2, 5, -1, 70000, 12);
        putAll(man, 3, 3, -1, 12);
        man.shelf(0, 0, 2);
        man.shelf(1, 1, 0);
        man.shelf(2, 0, 1);
        man.act(0, 3, 10);
        return man;
    }

    static void putAll(LightMan man, int sheet, int sort, int... items) {
        man.sheet(sheet, sort, items.length);
        for (int i = 0; i < items.length; i++) {
            man.put(sheet, i, items[i]);
        }
    }
}
