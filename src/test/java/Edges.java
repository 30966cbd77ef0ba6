import java.util.List;
import java.util.function.Supplier;

/** How the tests of boundary cases ask. */
final class Edges {
    static final Due DUE = new Due("EdgesTest");

    private Edges() {
    }

    /** A run of calls on one object, a row each: "set(0, 9) = 3", or "set(0, 9)" where the answer is not asked. */
    static void run(LightMan man, String rows) {
        for (String row : rows.split("\n")) {
            if (row.isBlank()) {
                continue;
            }
            int is = row.lastIndexOf(" = ");
            if (is < 0) {
                Calls.answer(man, row.trim());
            } else {
                String call = row.substring(0, is).trim();
                DUE.is(Long.decode(row.substring(is + 3).trim()), Calls.answer(man, call), call);
            }
        }
    }

    static void run(String rows) {
        run(new LightMan(), rows);
    }

    /** Each call, on an object of its own, is refused, and changes nothing that can be seen. */
    static void refuses(Supplier<LightMan> maker, long answer, String... calls) {
        List<String> untouched = Seen.of(maker.get());
        for (String call : calls) {
            LightMan man = maker.get();
            DUE.is(answer, Calls.answer(man, call), call);
            isSeenAs(untouched, man, call);
        }
    }

    /** Each call, whatever it answers, changes nothing that can be seen. */
    static void changesNothing(Supplier<LightMan> maker, String... calls) {
        List<String> untouched = Seen.of(maker.get());
        for (String call : calls) {
            LightMan man = maker.get();
            DUE.holds(Calls.answer(man, call) >= 0, call + " is answered");
            isSeenAs(untouched, man, call);
        }
    }

    static void isSeenAs(List<String> untouched, LightMan man, String call) {
        List<String> seen = Seen.of(man);
        for (int i = 0; i < untouched.size(); i++) {
            if (!untouched.get(i).equals(seen.get(i))) {
                DUE.holds(false, "behind " + call + ": " + seen.get(i) + ", untouched: " + untouched.get(i) + ": that");
            }
        }
        DUE.holds(seen.equals(untouched), "all is as it was behind " + call + ": that");
    }
}
