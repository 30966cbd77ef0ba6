import java.util.ArrayList;
import java.util.List;

/** All that can be seen of an object, what is kept and what THE TAPE has too; the object is used up by it. */
final class Seen {
    private final LightMan man;
    private final List<String> rows = new ArrayList<>();

    private Seen(LightMan man) {
        this.man = man;
    }

    static List<String> of(LightMan man) {
        Seen seen = new Seen(man);
        seen.lookAtThings();
        seen.lookAtTunnel();
        seen.look("again()");
        seen.lookAtTunnel();
        seen.look("tunnel()");
        seen.lookAtTunnel();
        return seen.rows;
    }

    private void look(String call) {
        rows.add(call + " = " + Calls.answer(man, call));
    }

    private void lookAtThings() {
        for (int what = 4; what < 7; what++) {
            look("many(" + what + ")");
        }
        for (int i = 0; i < 30; i++) {
            look("row(" + i / 3 + ", " + i % 3 + ")");
        }
        for (int i = 0; i < 11; i++) {
            look("trace(" + i + ")");
        }
        for (int i = 0; i < 64; i++) {
            look("item(" + i / 16 + ", " + i / 4 % 4 + ", " + i % 4 + ")");
        }
        for (int i = 0; i < 40; i++) {
            int as = i % 10;
            look("taken(" + i / 10 + ", " + (as < 6 ? as : as + 4) + ")");
        }
    }

    private void lookAtTunnel() {
        for (int i = 0; i < 32; i++) {
            look("of(" + i / 4 + ", " + i % 4 + ")");
        }
        for (int i = 0; i < 12; i++) {
            look("rosterOf(" + i / 2 + ", " + i % 2 + ")");
        }
        for (int i = 0; i < 4; i++) {
            look("lawOf(" + i + ")");
        }
        look("state(0)");
        look("many(0)");
        look("many(4)");
        look("seed(6)");
    }
}
