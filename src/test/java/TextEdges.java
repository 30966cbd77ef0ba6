/** Boundary cases of THE TAPE and of the text on it: promises 2 and 3, and what the terms say of them. */
final class TextEdges {
    private static final Due DUE = Edges.DUE;
    private static final String EIGHT = "goer at 1;".repeat(8);

    private TextEdges() {
    }

    private static void tells(int goers, String text) {
        Edges.run("tell '" + text + "' = " + goers);
    }

    /** Each text has its fault at that place. */
    private static void fails(int fault, String... texts) {
        for (String text : texts) {
            Edges.run("tell '" + text + "' = " + (-100 - fault));
        }
    }

    // ---- the tape

    @Edge(promise = 2, says = "n bytes (1 to 8) come to THE TAPE, the lowest of eight first: how many it has.")
    static void theFewestAndTheMostBytesAtOnce() {
        // "lamp 98;", of which the last sign is the highest byte; then "hum 7;" one by one.
        Edges.run("""
            feed(0x3b, 0) = -1
            feed(0x3b, 9) = -1
            feed(0x3b383920706d616c, 8) = 8
            feed(0x68, 1) = 9
            feed(0x4175, 1) = 10
            feed(-147, 1) = 11
            feed(0x20, 1) = 12
            feed(0x37, 1) = 13
            feed(0x3b, 1) = 14
            many(5) = 14
            tunnel() = 0
            lawOf(3) = 98
            lawOf(0) = 7
            """);
    }

    @Edge(promise = 2, says = "n bytes (1 to 8) come to THE TAPE")
    static void whatLiesAboveTheTakenBytesIsLeft() {
        for (int n = 1; n < 8; n++) {
            LightMan man = new LightMan();
            long blanks = 0x2020202020202020L;
            DUE.is(n, man.feed(blanks & (1L << 8 * n) - 1 | -1L << 8 * n, n), "feed of " + n + " blanks below others");
            DUE.is(0, man.tunnel(), "tunnel() of " + n + " blanks");
        }
    }

    private static LightMan withBlanks(int n) {
        LightMan man = new LightMan();
        Due.feedAll(man, " ".repeat(n));
        return man;
    }

    @Edge(promise = 2, says = "FULL: more than 200.")
    static void oneByteBeyondTheTapesEnd() {
        for (int n = 1; n <= 8; n++) {
            Edges.run(withBlanks(200 - n), "feed(0x3b, " + n + ") = 200");
            Edges.run(withBlanks(201 - n), "feed(0x3b, " + n + ") = -2\n many(5) = " + (201 - n));
        }
        Edges.run(withBlanks(200), """
            feed(0, 1) = -2
            feed(0, 8) = -2
            feed(0, 0) = -1
            feed(0, 9) = -1
            many(5) = 200
            """);
    }

    @Edge(promise = 2, says = "FULL: more than 200.")
    static void nothingOfWhatIsTooMuchIsTaken() {
        Edges.refuses(() -> withBlanks(197), -2, "feed(0x3b3b3b3b, 4)", "feed(0x3b, 8)");
        Edges.refuses(() -> withBlanks(200), -2, "feed(0x3b, 1)");
        Edges.run(withBlanks(197), "feed(0x3b3b3b3b, 4) = -2\n feed(0x202020, 3) = 200\n tunnel() = 0");
    }

    @Edge(says = "THE TAPE takes bytes, 200 at most; tunnel() uses it up.")
    static void theTapeIsEmptyBehindTunnel() {
        LightMan man = withBlanks(200);
        Edges.run(man, "tunnel() = 0\n many(5) = 0\n feed(0x78, 1) = 1\n tunnel() = -100\n many(5) = 0");
        Due.feedAll(man, "hum 9;".repeat(33) + " ");
        Edges.run(man, """
            many(5) = 199
            feed(0x20, 1) = 200
            tunnel() = 0
            lawOf(0) = 9
            tunnel() = 0
            lawOf(0) = 3
            """);
    }

    // ---- what a text becomes

    @Edge(promise = 3, says = "THE TAPE becomes all: how many GOERS")
    static void nobodyAndEight() {
        tells(0, "");
        tells(1, "goer at 1;");
        tells(8, EIGHT);
        LightMan man = new LightMan();
        Edges.run(man, "tell '" + EIGHT + "' = 8\n goer(0, 0, 0) = -2\n of(7, 2) = 1\n of(8, 2) = -1");
        Edges.run(man, "tell '' = 0\n goer(0, 0, 0) = 0");
    }

    @Edge(promise = 3, says = "-100 less its FAULT")
    static void theFirstAndTheLastFault() {
        fails(0, ";", "x", "0", "~00", "~ff", "~80");
        fails(1, " ;");
        fails(200, "hum 9;".repeat(32) + "love   9");
        fails(199, " ".repeat(199) + "x");
        fails(197, "hum 9;".repeat(32) + " hum at ");
    }

    @Edge(promise = 3, says = "There are no ROWS then.")
    static void rowsGoWithATextAndStayWithAFault() {
        Edges.run("""
            goer(0, 50, 3)
            prove(0, 10) = 10
            tell 'goer at 99;' = -108
            many(4) = 10
            row(9, 0) = 12
            tell 'goer at 3;' = 1
            many(4) = 0
            row(0, 0) = -9
            prove(0, 1) = 1
            tunnel() = 0
            many(4) = 0
            """);
    }

    @Edge(says = "(but that THE TAPE is used up by tunnel())")
    static void aFaultUsesUpTheTapeAndNoMore() {
        String[] faulty = {"x", "hum 4; love 1; goer at 3; goer at 12;", "goer at 3", EIGHT + "goer at 1;",
            "fog 3 is 1; arms 2 is 5; dread", "hum 9;".repeat(33) + " x"};
        for (String text : faulty) {
            LightMan man = Make.richWithoutTape();
            DUE.holds(Due.tell(man, text) <= -100, "a fault of '" + text + "': that");
            Edges.isSeenAs(Seen.of(Make.richWithoutTape()), man, "tunnel() of '" + text + "'");
        }
    }

    @Edge(says = "It is all by it alone (what it doesn't tell is as at first); z stays.")
    static void whatATextDoesNotTellIsAsAtFirst() {
        LightMan man = Make.rich();
        LightMan fresh = new LightMan();
        man.tunnel();
        man.seed(-77);
        Edges.run(man, "many(0) = 1\n steps(7)\n tunnel() = 0\n state(0) = 0\n many(3) = 0\n seed(5) = -77");
        for (int i = 0; i < 12; i++) {
            DUE.is(fresh.rosterOf(i / 2, i % 2), man.rosterOf(i / 2, i % 2), "roster of rest " + i / 2);
        }
        for (int law = 0; law < 4; law++) {
            DUE.is(fresh.lawOf(law), man.lawOf(law), "lawOf(" + law + ")");
        }
        Edges.run(man, "goer(0, 50, 3) = 0\n of(0, 3) = 0");
    }

    @Edge(says = "It is all by it alone")
    static void thoseOfAnEarlierTextAreGone() {
        LightMan man = new LightMan();
        Edges.run(man, "tell '" + "goer at 11;".repeat(8) + "' = 8\n steps(1) = 8");
        Edges.run(man, """
            tell 'driver at 3 faith 20;' = 1
            many(0) = 1
            many(1) = 0
            many(2) = 1
            many(3) = 0
            state(1) = 0
            state(2) = 1
            state(3) = 20
            state(4) = 3
            passed(2) = 0
            passed(3) = 1
            of(1, 2) = -1
            steps(1) = 0
            many(3) = 1
            """);
    }

    @Edge(says = "KIND (goer | driver | mourner | stoker | widow | child): one more AT a PLACE (0 to 11)")
    static void theFirstAndTheLastPlaceInAText() {
        String[] kinds = {"goer", "driver", "mourner", "stoker", "widow", "child"};
        for (int kind = 0; kind < 6; kind++) {
            String name = kinds[kind];
            Edges.run("""
                tell '%1$s at 0; %1$s at 11;' = 2
                of(0, 2) = 0
                of(1, 2) = 11
                of(1, 0) = %2$d
                """.formatted(name, kind));
            Edges.run("tell '" + name + " at 12;' = " + (-104 - name.length()));
        }
    }

    @Edge(says = "FAITH (50 without)")
    static void theLeastTheMostAndNoFaithInAText() {
        Edges.run("""
            tell 'goer at 3 faith 0; goer at 3 faith 99; goer at 3; goer at 3 faith 50;' = 4
            of(0, 1) = 0
            of(1, 1) = 99
            of(2, 1) = 50
            of(3, 1) = 50
            tell 'goer at 3 faith 100;' = -116
            """);
    }

    @Edge(says = "fog, arms: of a rest (0 to 5).")
    static void theFirstAndTheLastRestInAText() {
        Edges.run("""
            tell 'fog 0 is 9; fog 5 is 0; arms 0 is 0; arms 5 is 9;' = 0
            rosterOf(0, 0) = 9
            rosterOf(5, 0) = 0
            rosterOf(0, 1) = 0
            rosterOf(5, 1) = 9
            rosterOf(1, 0) = 2
            rosterOf(4, 1) = 4
            tell 'fog 6 is 1;' = -104
            tell 'arms 6 is 1;' = -105
            tell 'fog 0 is 10;' = -109
            tell 'arms 0 is 10;' = -110
            """);
    }

    @Edge(says = "The others: the LAW.")
    static void theLeastAndTheMostOfEachLawInAText() {
        String[] laws = {"hum", "dread", "love", "lamp"};
        for (int law = 0; law < 4; law++) {
            int most = law == 0 ? 9 : 99;
            String head = "tell '" + laws[law] + " ";
            Edges.run(head + most + ";' = 0\n lawOf(" + law + ") = " + most);
            Edges.run(head + "0;' = 0\n lawOf(" + law + ") = 0");
            Edges.run(head + (most + 1) + ";' = " + (-101 - laws[law].length()));
            Edges.run(head + "999;' = " + (-101 - laws[law].length()));
        }
    }

    // ---- names, numbers, blanks

    @Edge(says = "NAMES are rows of letters a to z")
    static void signsBesideTheLetters() {
        fails(4, "goer~60at 3;", "goer{at 3;", "goerAt 3;", "goer~e1at 3;", "goer~00at 3;");
        fails(0, "goera at 3;", "goerz at 3;", "goe at 3;", "xoer at 3;", "goex at 3;", "Goer at 3;", "GOER at 3;",
            "~60", "{", "a", "z");
    }

    @Edge(says = "NUMBERS rows of digits (1 to 3)")
    static void numbersOfUpToThreeDigits() {
        Edges.run("""
            tell 'hum 0;' = 0
            lawOf(0) = 0
            tell 'hum 09;' = 0
            lawOf(0) = 9
            tell 'hum 009;' = 0
            lawOf(0) = 9
            """);
        fails(4, "hum 0009;", "hum 0000;", "hum 00000000000000000000000000000000;", "hum 4294967296;",
            "hum 18446744073709551616;");
        fails(4, "hum ;", "hum -1;", "hum +1;", "hum x;");
        fails(5, "hum 3/;", "hum 3:;", "hum 3.;", "hum 3~b2;");
    }

    @Edge(says = "both as long as they go")
    static void aNameOrNumberIsAsLongAsItGoes() {
        fails(0, "goerat 3;", "humlove 3;", "hum".repeat(60));
        fails(4, "hum 33;", "hum 3333;");
        Edges.run("tell 'goer at11faith99;' = 1\n of(0, 2) = 11\n of(0, 1) = 99");
        fails(8, "goer at 111faith 9;");
        fails(9, "goer at 3faithful 9;");
        fails(6, "hum 3 3;");
    }

    @Edge(says = "blanks (32) part them, and stand elsewhere as one likes")
    static void blanksAndSignsBesideTheBlank() {
        tells(0, " ");
        tells(0, " ".repeat(200));
        tells(1, "goer at3;");
        tells(1, "   goer   at   3   faith   4   ;   ");
        tells(1, "goer at 3faith4;hum3;fog1is2;");
        fails(3, "hum~093;", "hum~0a3;", "hum~1f3;", "hum!3;", "hum~003;", "hum~a03;");
        fails(0, "hu m 3;", "h um 3;");
        fails(6, "hum 0 3;");
    }

    // ---- faults

    @Edge(says = "FAULT: the place (from 0) of the first byte of the first NAME, NUMBER "
        + "or other byte that can't stand there")
    static void whatCanNotStandThere() {
        fails(0, "at 3;", "faith 3;", "is 3;", "3;", ";", "name 3;", "-", "hums 3;");
        fails(5, "goer goer at 3;", "goer is 3;", "goer 3;", "goer ;", "goer -", "goer faith 3;", "goer att 3;");
        fails(8, "goer at at 3;", "goer at ;", "goer at faith 3;", "goer at -3;");
        fails(10, "goer at 3 3;", "goer at 3 at 4;", "goer at 3 faiths 4;", "goer at 3 ,", "goer at 3 goer at 3;");
        fails(16, "goer at 3 faith ;", "goer at 3 faith faith 3;", "goer at 3 faith -3;");
        fails(18, "goer at 3 faith 4 faith 4;", "goer at 3 faith 4 4;", "goer at 3 faith 4 goer at 3;");
        fails(4, "fog is 1;", "fog ;", "fog -1 is 1;", "fog fog 1 is 1;");
        fails(6, "fog 1 1;", "fog 1 ;", "fog 1 at 1;", "fog 1 =1;", "fog 1 fog 1 is 1;");
        fails(10, "arms 1 is ;", "arms 1 is is 1;", "arms 1 is x;");
        fails(12, "arms 1 is 1 1;", "arms 1 is 1 is;", "arms 1 is 1 arms 1 is 1;");
        fails(5, "love ;", "love is 3;", "love love 3;", "lamp lamp 3;", "love -3;");
        fails(7, "lamp 3 3;", "lamp 3 faith 4;", "lamp 3 lamp 3;", "lamp 3 is 3;");
        fails(6, "hum 3;;", "hum 3;3", "hum 3;at 3;", "hum 3;x");
        fails(8, "goer at 12;hum 99;x");
    }

    @Edge(says = "or is not as told (a NUMBER out of range, of more digits; the NAME of a ninth one)")
    static void theNameOfANinthOne() {
        tells(8, EIGHT + "hum 3;");
        fails(80, EIGHT + "goer at 1;", EIGHT + "child at 99;", EIGHT + "widow", EIGHT + "driver x",
            EIGHT + "stoker ;");
        fails(83, EIGHT + "   mourner at 1;");
        fails(70 + 8, "goer at 1;".repeat(7) + "goer at 12;goer at 1;goer at 1;");
        fails(86, EIGHT + "hum 3;goer at 1;");
    }

    @Edge(says = "or the end (how many bytes there are), if more must come")
    static void theEndWhereMoreMustCome() {
        String[] sentences = {"goer at 3 faith 5 ;", "fog 1 is 2 ;", "arms 1 is 2 ;", "hum 3 ;", "dread 3 ;",
            "love 3 ;", "lamp 3 ;"};
        for (String sentence : sentences) {
            for (int end = 1; end < sentence.length(); end++) {
                boolean behindWord = sentence.charAt(end) == ' ' || sentence.charAt(end - 1) == ' ';
                if (behindWord) {
                    fails(end, sentence.substring(0, end));
                    fails(end + 5, sentence.substring(0, end) + "     ");
                    fails(end + 6, "hum 3;" + sentence.substring(0, end));
                }
            }
        }
        fails(4, "goer");
        fails(7, "goer at");
    }
}
