/** Promises 1 to 18: the tape and its text, laws, roster, goers and steps. */
public final class TunnelTest {
    private static final int MIN = Integer.MIN_VALUE, MAX = Integer.MAX_VALUE;
    private static final Due DUE = new Due("TunnelTest");

    private static void isAtFirst(LightMan man) {
        int[] laws = {3, 10, 90, 20};
        for (int law = 0; law < 4; law++) {
            DUE.is(laws[law], man.lawOf(law), "lawOf(" + law + ")");
        }
        for (int rest = 0; rest < 6; rest++) {
            DUE.is(2, man.rosterOf(rest, 0), "fog of rest " + rest);
            DUE.is(4, man.rosterOf(rest, 1), "arms of rest " + rest);
        }
        for (int what = 0; what < 6; what++) {
            DUE.is(0, man.state(what), "state(" + what + ")");
        }
    }

    private static void promise1() {
        DUE.about("promise 1");
        LightMan man = new LightMan();
        isAtFirst(man);
        for (int what = 0; what < 7; what++) {
            DUE.is(0, man.many(what), "many(" + what + ")");
        }
        DUE.is(-1, man.of(0, 0), "of(0, 0)");
        DUE.is(-3, man.again(), "again()");
        DUE.is(-9, man.row(0, 0), "row(0, 0)");
        DUE.is(-3, man.trace(0), "trace(0)");
        for (int i = 0; i < 4; i++) {
            DUE.is(-11, man.put(i, 0, 0), "put into sheet " + i);
            DUE.is(-11, man.taken(i, 0), "taken from shelf " + i);
        }
        DUE.is(1, man.seed(9), "seed(9)");
    }

    private static void promise2() {
        DUE.about("promise 2");
        LightMan man = new LightMan();
        for (int n : new int[] {0, -1, 9, MIN, MAX}) {
            DUE.is(-1, man.feed(0, n), "feed(0, " + n + ")");
        }
        DUE.is(1, man.feed(' ', 1), "feed(32, 1)");
        // "hum 7;" in the six lowest bytes; what lies above them is not taken.
        long text = 'h' | 'u' << 8 | 'm' << 16 | ' ' << 24 | (long) '7' << 32 | (long) ';' << 40 | (long) 'x' << 48;
        DUE.is(7, man.feed(text, 6), "feed of six");
        DUE.is(7, man.many(5), "many(5)");
        DUE.is(0, man.tunnel(), "tunnel()");
        DUE.is(7, man.lawOf(0), "lawOf(0)");
        for (int i = 1; i <= 24; i++) {
            DUE.is(8 * i, man.feed(0x2020202020202020L, 8), "feed of eight blanks");
        }
        DUE.is(197, man.feed(0x2020202020202020L, 5), "feed of five");
        DUE.is(-2, man.feed(0, 4), "feed beyond 200");
        DUE.is(-2, man.feed(0, 8), "feed far beyond 200");
        DUE.is(-1, man.feed(0, 9), "feed of nine, where it is full, too");
        DUE.is(197, man.many(5), "many(5)");
        DUE.is(200, man.feed(0x202020, 3), "feed up to 200");
        DUE.is(-2, man.feed(' ', 1), "feed of one more");
        DUE.is(0, man.tunnel(), "tunnel() of 200 blanks");
        DUE.is(0, man.many(5), "many(5)");
        DUE.is(1, man.feed('!', 1), "feed(33, 1)");
        DUE.is(-100, man.tunnel(), "tunnel() of another byte");
    }

    private static void tells(int goers, String text) {
        DUE.is(goers, Due.tell(new LightMan(), text), "tunnel() of '" + text + "'");
    }

    private static void fails(int fault, String text) {
        LightMan man = Make.with(5, 7, 9);
        man.set(0, 8);
        man.roster(3, 1, 9);
        man.prove(0, 2);
        DUE.is(-100 - fault, Due.tell(man, text), "tunnel() of '" + text + "'");
        DUE.is(0, man.many(5), "many(5) behind it");
        DUE.is(2, man.many(4), "many(4) behind it");
        DUE.is(8 + 9 + 1 + 5 + 7, man.lawOf(0) + man.rosterOf(3, 1) + man.many(0) + man.of(0, 0) + man.of(0, 1),
            "all that was told before");
    }

    private static void promise3() {
        DUE.about("promise 3");
        tells(0, "");
        tells(0, "   ");
        tells(1, "goer at 0;");
        tells(1, "  goer   at  0  ;  ");
        tells(1, "goer at0faith7;");
        tells(6, "goer at 1;driver at 2;mourner at 3;stoker at 4;widow at 5;child at 6;");
        tells(8, "goer at 1;".repeat(8));
        tells(0, "hum3;dread99;love0;lamp 099;fog0is9;arms 5 is 000;");
        promise3Faults();
        promise3Told();
        promise3Shorter();
        promise3Stays();
    }

    private static void promise3Faults() {
        fails(0, ";");
        fails(0, "x");
        fails(0, "7");
        fails(0, "at 3;");
        fails(2, "  goers at 3;");
        fails(0, "goerat3;");
        fails(0, "goerz at 3;");
        fails(0, "aoer at 3;");
        fails(0, "Goer at 3;");
        fails(0, "gOer at 3;");
        fails(0, "" + (char) 225);
        fails(4, "goer");
        fails(5, "goer in 3;");
        fails(7, "goer at");
        fails(8, "goer at ;");
        fails(8, "goer at 12;");
        fails(8, "goer at -1;");
        fails(8, "goer at 0011;");
        fails(8, "goer at 99999999999999999999;");
        fails(9, "goer at 3");
        fails(12, "goer at 3   ");
        fails(10, "goer at 3 at 4;");
        fails(10, "goer at 3 4;");
        fails(9, "goer at 3,");
        fails(16, "goer at 3 faith ;");
        fails(15, "goer at 3 faith");
        fails(16, "goer at 3 faith 100;");
        fails(16, "goer at 3 faith 0099;");
        fails(19, "goer at 3 faith 99 5;");
        fails(10, "goer at 3;;");
        fails(10, "goer at 3;\tgoer at 4;");
        fails(4, "fog 6 is 1;");
        fails(6, "fog 5 in 1;");
        fails(9, "fog 5 is 10;");
        fails(9, "arms 0is 10;");
        fails(5, "arms 6 is 1;");
        fails(11, "arms 0 is 1");
        fails(4, "hum 10;");
        fails(6, "dread 100;");
        fails(5, "love 100;");
        fails(5, "lamp 100;");
        fails(6, "hum 9 faith 3;");
        fails(80, "goer at 1;".repeat(8) + "child at 1;");
        fails(81, "goer at 1;".repeat(8) + " goer");
        fails(80, "goer at 1;".repeat(8) + "what at 1;");
    }

    private static void promise3Told() {
        LightMan man = new LightMan();
        DUE.is(3, Due.tell(man, "goer at 11 faith 99; child at 0; widow at 007 faith 0;"), "tunnel() of three");
        int[][] goers = {{0, 99, 11, 0}, {5, 50, 0, 0}, {4, 0, 7, 0}};
        for (int i = 0; i < 3; i++) {
            for (int what = 0; what < 4; what++) {
                DUE.is(goers[i][what], man.of(i, what), "of(" + i + ", " + what + ")");
            }
        }
        Due.tell(man, "goer at 1;driver at 2;mourner at 3;stoker at 4;widow at 5;child at 6;");
        for (int kind = 0; kind < 6; kind++) {
            DUE.is(kind, man.of(kind, 0), "of(" + kind + ", 0)");
            DUE.is(kind + 1, man.of(kind, 2), "of(" + kind + ", 2)");
        }
        man.steps(2);
        man.passed(1);
        Due.tell(man, "goer at 5;");
        DUE.is(0, man.of(0, 3), "of(0, 3) of a new one");
        man.goer(0, 50, 5);
        DUE.is(0, man.of(1, 3), "of(1, 3) of a new one");
        DUE.is(0, Due.tell(man, "fog 0 is 9; fog 0 is 8; arms 5 is 0; hum 9; dread 98; love 97; lamp 96;"),
            "tunnel() of laws");
        int[] laws = {9, 98, 97, 96};
        for (int law = 0; law < 4; law++) {
            DUE.is(laws[law], man.lawOf(law), "lawOf(" + law + ")");
        }
        DUE.is(8, man.rosterOf(0, 0), "rosterOf(0, 0), told twice");
        DUE.is(2, man.rosterOf(1, 0), "rosterOf(1, 0)");
        DUE.is(0, man.rosterOf(5, 1), "rosterOf(5, 1)");
        DUE.is(4, man.rosterOf(0, 1), "rosterOf(0, 1)");
    }

    /** What an earlier text left behind the end of a shorter one doesn't count. */
    private static void promise3Shorter() {
        LightMan man = new LightMan();
        DUE.is(-100, Due.tell(man, "9".repeat(200)), "tunnel() of digits");
        DUE.is(-105, Due.tell(man, "hum 9"), "tunnel() of 'hum 9'");
        DUE.is(-100, Due.tell(man, "x".repeat(200)), "tunnel() of letters");
        DUE.is(-104, Due.tell(man, "goer"), "tunnel() of 'goer'");
        DUE.is(-300, Due.tell(man, "hum 9;".repeat(32) + "love   9"), "tunnel() of 200 bytes that end too soon");
    }

    private static void promise3Stays() {
        LightMan man = Make.with(1, 50, 4);
        man.set(1, 77);
        man.roster(2, 0, 8);
        man.keep();
        man.steps(5);
        man.prove(0, 4);
        man.sheet(2, 0, 3);
        man.shelf(0, 0, 0);
        man.shelf(1, 1, 2);
        man.act(0, 1, 5);
        man.seed(1234);
        DUE.is(0, man.tunnel(), "tunnel() of nothing");
        isAtFirst(man);
        DUE.is(0, man.many(4), "many(4)");
        DUE.is(-9, man.row(0, 0), "row(0, 0)");
        DUE.is(1234, man.seed(5), "seed(5)");
        DUE.is(3, man.many(6), "many(6)");
        DUE.is(1, man.put(2, 2, 1), "put(2, 2, 1)");
        DUE.is(-11, man.taken(0, 1), "taken(0, 1), whose goer is gone");
        DUE.is(3, man.taken(1, 10), "taken(1, 10)");
        DUE.is(1, man.again(), "again()");
        DUE.is(77, man.lawOf(1), "lawOf(1)");
        DUE.is(0, man.taken(0, 1), "taken(0, 1), whose goer has come again");
    }

    private static void promises4And5() {
        DUE.about("promises 4, 5");
        LightMan man = new LightMan();
        int[] first = {3, 10, 90, 20};
        int[] most = {9, 99, 99, 99};
        for (int law = 0; law < 4; law++) {
            DUE.is(-1, man.set(law, -1), "set(" + law + ", -1)");
            DUE.is(-1, man.set(law, most[law] + 1), "set(" + law + ", " + (most[law] + 1) + ")");
            DUE.is(first[law], man.lawOf(law), "lawOf(" + law + ")");
            DUE.is(first[law], man.set(law, most[law]), "set to the most");
            DUE.is(most[law], man.lawOf(law), "lawOf(" + law + ")");
            DUE.is(most[law], man.set(law, 0), "set to 0");
            DUE.is(0, man.lawOf(law), "lawOf(" + law + ")");
        }
        for (int law : new int[] {-1, 4, MIN, MAX}) {
            DUE.is(-1, man.set(law, 1), "set(" + law + ", 1)");
            DUE.is(-1, man.lawOf(law), "lawOf(" + law + ")");
        }
    }

    private static void promises6And7() {
        DUE.about("promises 6, 7");
        LightMan man = new LightMan();
        for (int rest = 0; rest < 6; rest++) {
            DUE.is(2, man.roster(rest, 0, rest), "fog of rest " + rest);
            DUE.is(4, man.roster(rest, 1, 9 - rest), "arms of rest " + rest);
        }
        for (int rest = 0; rest < 6; rest++) {
            DUE.is(rest, man.rosterOf(rest, 0), "fog of rest " + rest);
            DUE.is(9 - rest, man.rosterOf(rest, 1), "arms of rest " + rest);
        }
        int[][] wrong = {{-1, 0, 1}, {6, 0, 1}, {0, -1, 1}, {0, 2, 1}, {0, 0, -1}, {0, 1, 10}, {MIN, 0, 0}, {0, MAX, 0}};
        for (int[] w : wrong) {
            DUE.is(-1, man.roster(w[0], w[1], w[2]), "roster(" + w[0] + ", " + w[1] + ", " + w[2] + ")");
        }
        for (int[] w : new int[][] {{-1, 0}, {6, 1}, {0, -1}, {0, 2}, {MAX, MIN}}) {
            DUE.is(-1, man.rosterOf(w[0], w[1]), "rosterOf(" + w[0] + ", " + w[1] + ")");
        }
        DUE.is(0, man.rosterOf(0, 0), "rosterOf(0, 0)");
        DUE.is(9, man.roster(0, 1, 0), "roster(0, 1, 0)");
        promise7Holds();
    }

    /** Of six steps each has its own rest, and the seventh has the first one's again. */
    private static void promise7Holds() {
        LightMan man = Make.with(0, 50, 0);
        man.set(1, 0);
        for (int rest = 0; rest < 6; rest++) {
            man.roster(rest, 0, 9 - rest);
            man.roster(rest, 1, 0);
        }
        for (int step = 0; step < 8; step++) {
            man.bring(0, 0);
            DUE.is(1000 + 8 - (9 - step % 6), man.does(0, 0), "SIGHT in step " + step);
            man.steps(1);
        }
    }

    private static void promise8() {
        DUE.about("promise 8");
        LightMan man = new LightMan();
        int[][] wrong = {{-1, 5, 5}, {6, 5, 5}, {0, -1, 5}, {0, 100, 5}, {0, 5, -1}, {0, 5, 12}, {MIN, MAX, MIN}};
        for (int[] w : wrong) {
            DUE.is(-1, man.goer(w[0], w[1], w[2]), "goer(" + w[0] + ", " + w[1] + ", " + w[2] + ")");
        }
        for (int i = 0; i < 8; i++) {
            DUE.is(i, man.goer(i % 6, i == 0 ? 99 : i, i == 0 ? 11 : i), "goer number " + i);
        }
        DUE.is(-2, man.goer(0, 0, 0), "a ninth one");
        DUE.is(-1, man.goer(0, 0, 12), "a ninth one that is wrong");
        DUE.is(8, man.many(0), "many(0)");
        DUE.is(99, man.of(0, 1), "of(0, 1)");
        DUE.is(11, man.of(0, 2), "of(0, 2)");
        DUE.is(1, man.of(7, 0), "of(7, 0)");
    }

    private static void promise9() {
        DUE.about("promise 9");
        LightMan man = Make.with(0, 50, 1);
        int[] want = {0, 50, 1, 0, 0};
        for (int what = 0; what < 5; what++) {
            DUE.is(want[what], man.of(0, what), "of(0, " + what + ")");
        }
        // SIGHT is 8 + 4 - 2: PLACE 2 is the first from which he is seen.
        man.bring(0, 2);
        DUE.is(1, man.of(0, 4), "of(0, 4) at 2");
        man.steps(1);
        DUE.is(1, man.of(0, 3), "of(0, 3)");
        man.bring(0, 12);
        DUE.is(12, man.of(0, 2), "of(0, 2) through");
        DUE.is(0, man.of(0, 4), "of(0, 4) through");
        for (int[] w : new int[][] {{-1, 0}, {1, 0}, {0, -1}, {0, 5}, {MIN, 0}, {0, MAX}}) {
            DUE.is(-1, man.of(w[0], w[1]), "of(" + w[0] + ", " + w[1] + ")");
        }
    }

    private static void doesAll(LightMan man, int kind, int... want) {
        man.mind(0, kind);
        for (int what = 0; what < 4; what++) {
            DUE.is(1000 + want[what], man.does(0, what), "does(0, " + what + ") of kind " + kind);
        }
    }

    private static void promise10() {
        DUE.about("promise 10");
        // FOG 7, ARMS 5, HUM 4, an even step.
        LightMan man = Make.with(0, 50, 6);
        man.set(0, 4);
        man.roster(0, 0, 7);
        man.roster(0, 1, 5);
        doesAll(man, 0, 6, 3, 2, 1);
        doesAll(man, 1, 10, 8, -1, 3);
        doesAll(man, 2, 4, 6, 3, 1);
        doesAll(man, 3, 7, 7, 6, 2);
        doesAll(man, 4, 8, 8, 6, 1);
        doesAll(man, 5, 8, 7, 5, 2);
        man.bring(0, 3);
        doesAll(man, 5, 8, 7, 5, 1);
        // FOG 9, ARMS 0, HUM 0, an odd step: SIGHT goes below 0.
        man.steps(1);
        man.set(0, 0);
        man.roster(1, 0, 9);
        man.roster(1, 1, 0);
        doesAll(man, 0, -1, 3, 2, 1);
        doesAll(man, 1, 3, 3, -1, 3);
        doesAll(man, 2, -3, 6, 3, 1);
        doesAll(man, 3, -1, 2, 8, 2);
        doesAll(man, 4, -3, 8, 6, 0);
        doesAll(man, 5, 0, 3, 5, 1);
        for (int[] w : new int[][] {{-1, 0}, {1, 0}, {0, -1}, {0, 4}, {MAX, MAX}}) {
            DUE.is(-1, man.does(w[0], w[1]), "does(" + w[0] + ", " + w[1] + ")");
        }
        man.bring(0, 12);
        DUE.is(-3, man.does(0, 3), "does(0, 3) through");
        DUE.is(-1, man.does(0, 4), "does(0, 4) through");
    }

    private static void promises11To13() {
        DUE.about("promises 11, 12, 13");
        LightMan man = Make.with(2, 40, 3);
        man.goer(1, 41, 4);
        DUE.is(2, man.mind(0, 5), "mind(0, 5)");
        DUE.is(5, man.mind(0, 5), "mind(0, 5) again");
        DUE.is(5, man.of(0, 0), "of(0, 0)");
        DUE.is(40, man.trust(0, 99), "trust(0, 99)");
        DUE.is(99, man.trust(0, 0), "trust(0, 0)");
        DUE.is(3, man.bring(0, 12), "bring(0, 12)");
        DUE.is(12, man.bring(0, 0), "bring(0, 0)");
        DUE.is(0, man.bring(0, 11), "bring(0, 11)");
        for (int[] w : new int[][] {{-1, 0}, {2, 0}, {0, -1}, {MAX, 0}, {0, MIN}, {0, MAX}}) {
            DUE.is(-1, man.mind(w[0], w[1]), "mind(" + w[0] + ", " + w[1] + ")");
            DUE.is(-1, man.trust(w[0], w[1]), "trust(" + w[0] + ", " + w[1] + ")");
            DUE.is(-1, man.bring(w[0], w[1]), "bring(" + w[0] + ", " + w[1] + ")");
        }
        DUE.is(-1, man.mind(0, 6), "mind(0, 6)");
        DUE.is(-1, man.trust(0, 100), "trust(0, 100)");
        DUE.is(-1, man.bring(0, 13), "bring(0, 13)");
        int[] zero = {5, 0, 11};
        int[] one = {1, 41, 4};
        for (int what = 0; what < 3; what++) {
            DUE.is(zero[what], man.of(0, what), "of(0, " + what + ")");
            DUE.is(one[what], man.of(1, what), "of(1, " + what + ")");
        }
    }

    private static void goes(int kind, int faith, int place, int faithThen, int placeThen) {
        LightMan man = Make.with(kind, faith, place);
        man.steps(1);
        DUE.is(faithThen, man.of(0, 1), "FAITH of kind " + kind + " from " + faith + " at " + place);
        DUE.is(placeThen, man.of(0, 2), "PLACE of kind " + kind + " from " + faith + " at " + place);
        DUE.is(1, man.state(0), "state(0)");
    }

    private static void promise14() {
        DUE.about("promise 14");
        // Below DREAD it goes back, at it it goes on; at LOVE it goes on, above it it sits.
        goes(0, 11, 1, 9, 0);
        goes(0, 12, 1, 10, 2);
        goes(0, 1, 0, 0, 0);
        goes(0, 6, 5, 9, 4);
        goes(0, 7, 5, 10, 6);
        goes(0, 87, 5, 90, 6);
        goes(0, 88, 5, 91, 5);
        goes(0, 98, 11, 99, 11);
        goes(0, 50, 11, 53, 12);
        goes(1, 50, 0, 57, 3);
        goes(1, 50, 9, 57, 12);
        goes(1, 50, 10, 57, 12);
        goes(4, 50, 11, 58, 12);
        goes(5, 50, 5, 45, 6);
        goes(5, 50, 6, 56, 8);
        promise14Laws();
        promise14Many();
        promise14Eight();
    }

    private static void promise14Eight() {
        LightMan man = new LightMan();
        for (int i = 0; i < 8; i++) {
            man.goer(0, 50, i + 4);
        }
        for (int n = 1; n <= 8; n++) {
            DUE.is(n, man.steps(1), "steps(1) of eight");
            DUE.is(256 - (256 >> n), man.state(1), "state(1)");
        }
        DUE.is(8, man.many(3), "many(3)");
        DUE.is(8, man.many(1), "many(1)");
        DUE.is(0, man.state(2), "state(2)");
        DUE.is(96, man.state(4), "state(4)");
    }

    private static void promise14Laws() {
        // DREAD stands before LOVE: where both hold it goes back.
        LightMan man = Make.with(0, 50, 5);
        man.set(1, 99);
        man.set(2, 0);
        man.steps(1);
        DUE.is(4, man.of(0, 2), "of(0, 2), above LOVE and below DREAD");
        // A driver that doesn't see him gains by it, though not above 99.
        LightMan driver = Make.with(1, 99, 0);
        driver.set(2, 99);
        driver.roster(0, 0, 9);
        driver.roster(0, 1, 0);
        driver.steps(1);
        DUE.is(99, driver.of(0, 1), "of(0, 1) of a driver in the fog");
        DUE.is(3, driver.of(0, 2), "of(0, 2) of a driver in the fog");
        DUE.is(0, driver.of(0, 3), "of(0, 3) of a driver in the fog");
        driver.bring(0, 2);
        driver.trust(0, 50);
        driver.roster(1, 0, 9);
        driver.roster(1, 1, 0);
        driver.steps(1);
        DUE.is(51, driver.of(0, 1), "of(0, 1) of a driver in the fog");
    }

    private static void promise14Many() {
        LightMan man = new LightMan();
        for (int n : new int[] {0, -1, 61, MIN, MAX}) {
            DUE.is(-1, man.steps(n), "steps(" + n + ")");
        }
        DUE.is(0, man.state(0), "state(0)");
        man.goer(1, 50, 9);
        man.goer(0, 50, 10);
        man.goer(0, 99, 5);
        DUE.is(1, man.steps(1), "steps(1)");
        DUE.is(2, man.steps(1), "steps(1)");
        DUE.is(57, man.of(0, 1), "of(0, 1), through since");
        DUE.is(1, man.of(0, 3), "of(0, 3), through since");
        DUE.is(2, man.steps(60), "steps(60)");
        DUE.is(62, man.state(0), "state(0)");
        DUE.is(62, man.of(2, 3), "of(2, 3), which sits");
        for (int i = 0; i < 165; i++) {
            man.steps(60);
        }
        DUE.is(9962, man.of(2, 3), "of(2, 3)");
        man.steps(37);
        DUE.is(9999, man.of(2, 3), "of(2, 3)");
        man.steps(60);
        DUE.is(9999, man.of(2, 3), "of(2, 3), 9999 at most");
    }

    private static void promises15And16() {
        DUE.about("promises 15, 16");
        LightMan man = new LightMan();
        DUE.is(0, man.step(), "step() of nobody");
        DUE.is(1, man.state(0), "state(0)");
        DUE.is(1, man.seed(MIN), "seed, which nobody drew from");
        DUE.is(MIN, man.seed(1), "seed(1)");
        man.goer(0, 30, 0);
        man.goer(0, 30, 12 - 1);
        man.set(3, 99);
        int first = 1 * 1103515245 + 12345;
        int second = first * 1103515245 + 12345;
        int one = (first >>> 16) % 2;
        boolean lamp = (second >>> 16) % 100 < 99;
        DUE.is(0, one, "the draw leaves 0");
        DUE.holds(lamp, "the draw is below LAMP");
        DUE.is(1, man.step(), "step()");
        DUE.is(69 - 2, man.of(0, 1), "of(0, 1)");
        DUE.is(33, man.of(1, 1), "of(1, 1)");
        DUE.is(second, man.seed(1), "seed, behind two draws");
        man.set(3, 0);
        man.step();
        DUE.is(65, man.of(0, 1), "of(0, 1) without a lamp");
        DUE.is(second, man.seed(1), "seed, behind two draws");
        promise16Threshold();
    }

    /** What the draw leaves by 100 is below LAMP, not at it; one that is through may be drawn, too. */
    private static void promise16Threshold() {
        int z = 1 * 1103515245 + 12345;
        int left = ((z * 1103515245 + 12345) >>> 16) % 100;
        for (int more = 0; more < 2; more++) {
            LightMan man = Make.with(0, 20, 3);
            man.bring(0, 12);
            man.set(3, left + more);
            DUE.is(1, man.step(), "step()");
            DUE.is(more == 1 ? 79 : 20, man.of(0, 1), "of(0, 1) with LAMP " + (left + more));
        }
    }

    private static void promise17() {
        DUE.about("promise 17");
        LightMan man = new LightMan();
        for (int n : new int[] {0, -1, 31, MIN, MAX}) {
            DUE.is(-1, man.luck(n), "luck(" + n + ")");
        }
        DUE.is(0, man.luck(30), "luck(30) of nobody");
        // At FAITH 99 it sits; 99 less that is 0, and it goes back: never more than a STEP.
        man.goer(0, 99, 5);
        man.set(3, 99);
        DUE.is(0, man.luck(30), "luck(30) of one that sits");
        // From 50 or 49 alike it goes on.
        man.trust(0, 50);
        DUE.is(0, man.luck(30), "luck(30) of one that goes on");
        // FAITH 95 sits; 4 and 3 are 7, which is not below DREAD now: it goes on with each lamp.
        man.trust(0, 95);
        man.set(1, 5);
        man.set(3, 60);
        int lamps = 0;
        int z = 77;
        for (int i = 0; i < 30; i++) {
            z = z * 1103515245 + 12345;
            z = z * 1103515245 + 12345;
            lamps += (z >>> 16) % 100 < 60 ? 1 : 0;
        }
        man.seed(77);
        DUE.is(lamps, man.luck(30), "luck(30) by lamps");
        int z1 = (77 * 1103515245 + 12345) * 1103515245 + 12345;
        DUE.is((z1 >>> 16) % 100 < 60 ? 1 : 0, man.luck(1), "luck(1)");
        DUE.holds(lamps > 0 && lamps < 30, "some lamps, not all");
        DUE.is(95, man.of(0, 1), "of(0, 1)");
        DUE.is(5, man.of(0, 2), "of(0, 2)");
        DUE.is(0, man.state(0), "state(0)");
        DUE.is(77, man.seed(77), "seed(77), which stays");
    }

    private static void promise18() {
        DUE.about("promise 18");
        LightMan man = new LightMan();
        man.goer(0, 50, 11);
        man.goer(0, 60, 0);
        man.goer(1, 70, 4);
        int[] want = {0, 0, 5, 180, 15, 0};
        for (int what = 0; what < 6; what++) {
            DUE.is(want[what], man.state(what), "state(" + what + ")");
        }
        man.steps(1);
        int[] then = {1, 1, 4, 53 + 58 + 77, 12 + 1 + 7, 0};
        for (int what = 0; what < 6; what++) {
            DUE.is(then[what], man.state(what), "state(" + what + ") then");
        }
        man.set(1, 50);
        man.set(2, 50);
        DUE.is(0, man.state(5), "state(5), LOVE as much as DREAD");
        man.set(2, 49);
        DUE.is(1, man.state(5), "state(5), LOVE less than DREAD");
        for (int what : new int[] {-1, 6, MIN, MAX}) {
            DUE.is(-1, man.state(what), "state(" + what + ")");
        }
    }

    public static void main(String[] args) {
        promise1();
        promise2();
        promise3();
        promises4And5();
        promises6And7();
        promise8();
        promise9();
        promise10();
        promises11To13();
        promise14();
        promises15And16();
        promise17();
        promise18();
        DUE.end();
    }
}
