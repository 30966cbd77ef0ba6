import java.lang.reflect.InvocationTargetException;
import java.lang.reflect.Method;
import java.util.ArrayList;
import java.util.Arrays;
import java.util.List;
import java.util.Random;

/** Random runs of calls, each answered by LightMan and by the Model; the seeds are fixed. */
public final class ModelTest {
    private static final int RUNS = 1500, CALLS = 300, MOST_TOLD = 20;

    /** Each method with the ranges its arguments are mostly drawn from, and how often it is called. */
    private static final String[] METHODS = {
        "1 set 0-3 0-99", "1 set 0-0 0-9", "1 lawOf 0-3", "2 roster 0-5 0-1 0-9", "1 rosterOf 0-5 0-1",
        "3 goer 0-5 0-99 0-11", "2 of 0-7 0-4", "2 does 0-7 0-3", "1 mind 0-7 0-5", "1 trust 0-7 0-99",
        "1 bring 0-7 0-12", "1 steps 1-4", "1 steps 1-60", "1 seed", "3 step", "1 luck 1-30", "3 state 0-5",
        "1 where 0-7 0-60", "1 comes 0-7", "1 sits 0-7", "1 back 0-7", "1 passed 0-60", "1 armsFor 0-5 1-40",
        "1 fogFor 0-5 0-7 0-40", "1 faithFor 0-7 0-40", "1 kindFor 0-7", "1 liftedFor 0-40 0-8",
        "2 fits 0-3 0-7 0-1", "1 odds 0-8 0-8 0-1", "1 hope 0-99 0-1", "1 prove 0-7 1-10", "2 row 0-9 0-2",
        "1 alterRow 0-9 0-2 0-99", "2 judge 0-7", "3 minds 0-3 0-8 0-7 0-8", "2 sheet 0-3 -1-3 0-8",
        "1 sheet 0-3 0-1 0-40", "3 put 0-3 0-7 -1-12", "2 put 0-3 0-7 -999-999", "2 item 0-3 0-3 0-7",
        "3 shelf 0-3 0-2 0-7", "3 taken 0-3 0-13", "4 act 0-3 0-3 -99-99", "1 act 0-3 0-3", "3 trace 0-11",
        "3 many 0-6", "1 keep", "1 again", "1 feed", "1 tunnel"};

    private static final String[] WORDS = {
        "goer", "driver", "mourner", "stoker", "widow", "child", "at", "faith", "fog", "arms", "is", "hum",
        "dread", "love", "lamp", ";", ";", " ", "3", "12", "012", "0004", "99", "100", "x", "A", "\u00e9", "\t"};

    private final Random random;
    private final LightMan man = new LightMan();
    private final Model model = new Model();
    private final List<String> told = new ArrayList<>();
    private final int run;

    private ModelTest(int run) {
        this.run = run;
        this.random = new Random(run);
    }

    private int from(int least, int most) {
        return least + random.nextInt(most - least + 1);
    }

    private int argument(String range) {
        int cut = range.indexOf('-', 1);
        int least = Integer.parseInt(range.substring(0, cut));
        int most = Integer.parseInt(range.substring(cut + 1));
        switch (random.nextInt(24)) {
            case 0: return least - 1;
            case 1: return most + 1;
            case 2: return random.nextBoolean() ? least : most;
            case 3: return random.nextInt(4) > 0 ? from(least, most) : random.nextInt();
            case 4: return random.nextInt(4) > 0 ? from(least, most)
                : random.nextBoolean() ? Integer.MIN_VALUE : Integer.MAX_VALUE;
            default: return from(least, most);
        }
    }

    private static Method named(Class<?> c, String name) {
        return Arrays.stream(c.getDeclaredMethods()).filter(m -> m.getName().equals(name)).findFirst().orElseThrow();
    }

    private boolean same(String name, Object... args) {
        try {
            long got = ((Number) named(LightMan.class, name).invoke(man, args)).longValue();
            long want = ((Number) named(Model.class, name).invoke(model, args)).longValue();
            told.add(name + Arrays.toString(args) + " " + got);
            if (got == want) {
                return true;
            }
            System.out.println("run " + run + ": " + name + Arrays.toString(args) + " answered " + got
                + ", the model " + want);
        } catch (InvocationTargetException e) {
            System.out.println("run " + run + ": " + name + Arrays.toString(args) + " threw " + e.getCause());
        } catch (IllegalAccessException e) {
            throw new IllegalStateException(e);
        }
        told.subList(Math.max(0, told.size() - MOST_TOLD), told.size()).forEach(t -> System.out.println("  " + t));
        return false;
    }

    private String sentence() {
        String blank = random.nextBoolean() ? " " : "  ";
        switch (random.nextInt(5)) {
            case 0: return WORDS[from(11, 11)] + blank + from(0, 9) + ";";
            case 1: return WORDS[from(12, 14)] + blank + from(0, 99) + blank + ";";
            case 2: return WORDS[from(8, 9)] + blank + from(0, 5) + blank + "is" + from(0, 9) + blank + ";";
            case 3: return WORDS[from(0, 5)] + blank + "at" + blank + from(0, 11) + ";" + blank;
            default: return WORDS[from(0, 5)] + blank + "at" + from(0, 11) + "faith" + blank + from(0, 99) + ";";
        }
    }

    private String text() {
        StringBuilder text = new StringBuilder();
        int sentences = from(0, 9);
        for (int i = 0; i < sentences; i++) {
            text.append(sentence());
        }
        if (random.nextInt(3) == 0) {
            int at = from(0, text.length());
            int to = Math.min(text.length(), at + from(0, 4));
            text.replace(at, to, WORDS[from(0, WORDS.length - 1)]);
        }
        if (random.nextInt(6) == 0) {
            text.setLength(from(0, text.length()));
        }
        return text.toString();
    }

    private boolean tellText() {
        String text = text();
        for (int at = 0; at < text.length(); at += 8) {
            long eight = random.nextLong() << 32;
            int n = Math.min(8, text.length() - at);
            for (int i = 0; i < n; i++) {
                eight = eight & ~(255L << 8 * i) | (long) text.charAt(at + i) << 8 * i;
            }
            if (!same("feed", eight, n)) {
                return false;
            }
        }
        return same("tunnel");
    }

    private boolean call(String[] words) {
        switch (words[1]) {
            case "seed": return same("seed", random.nextInt());
            case "feed": return random.nextInt(3) == 0 ? same("feed", random.nextLong(), argument("1-8")) : tellText();
            case "tunnel": return random.nextInt(3) > 0 || same("tunnel");
            default: break;
        }
        Method method = named(LightMan.class, words[1]);
        Object[] args = new Object[method.getParameterCount()];
        for (int i = 0; i < args.length; i++) {
            args[i] = i + 2 < words.length ? argument(words[i + 2]) : random.nextInt();
        }
        return same(words[1], args);
    }

    /** Everything that can be asked without a change, so that no hidden change stays hidden. */
    private boolean lookAtAll() {
        boolean fine = true;
        for (int i = 0; i < 8; i++) {
            for (int what = 0; what < 5; what++) {
                fine = fine && same("of", i, what);
            }
            fine = fine && same("state", i) && same("many", i) && same("lawOf", i);
            fine = fine && same("rosterOf", i, 0) && same("rosterOf", i, 1);
        }
        for (int i = 0; i < 4; i++) {
            for (int k = 0; k < 14; k++) {
                fine = fine && same("taken", i, k) && same("item", i, k % 4, k / 4) && same("row", k, i);
            }
        }
        for (int i = 0; i < 13; i++) {
            fine = fine && same("trace", i);
        }
        return fine;
    }

    private boolean isFine() {
        List<String[]> calls = new ArrayList<>();
        for (String line : METHODS) {
            String[] words = line.split(" ");
            for (int i = 0; i < Integer.parseInt(words[0]); i++) {
                calls.add(words);
            }
        }
        boolean fine = random.nextInt(3) > 0 || tellText();
        for (int i = 0; i < CALLS && fine; i++) {
            fine = call(calls.get(random.nextInt(calls.size()))) && (i % 30 != 0 || lookAtAll());
        }
        return fine && lookAtAll();
    }

    public static void main(String[] args) {
        Due due = new Due("ModelTest");
        for (int run = 0; run < RUNS; run++) {
            due.about("run " + run).holds(new ModelTest(run).isFine(), "LightMan is as the model");
        }
        due.end();
    }
}
