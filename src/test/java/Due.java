/** Counts answers that are not as due, and tells them. */
final class Due {
    private final String test;
    private String about = "";
    private int right = 0;
    private int wrong = 0;

    Due(String test) {
        this.test = test;
    }

    Due about(String promise) {
        about = promise;
        return this;
    }

    void is(long want, long got, String call) {
        if (want == got) {
            right++;
        } else {
            wrong++;
            System.out.println(test + ", " + about + ": " + call + " answered " + got + ", due is " + want);
        }
    }

    void holds(boolean fact, String what) {
        is(1, fact ? 1 : 0, what);
    }

    int asked() {
        return right + wrong;
    }

    /** Feeds a text, whose signs are 0 to 255, and makes it the tunnel. */
    static int tell(LightMan man, String text) {
        feedAll(man, text);
        return man.tunnel();
    }

    static void feedAll(LightMan man, String text) {
        for (int from = 0; from < text.length(); from += 8) {
            int n = Math.min(8, text.length() - from);
            long eight = 0;
            for (int i = 0; i < n; i++) {
                eight |= (long) text.charAt(from + i) << 8 * i;
            }
            man.feed(eight, n);
        }
    }

    void end() {
        System.out.println(test + ": " + right + " answers are as due, " + wrong + " are not");
        if (wrong != 0 || right == 0) {
            System.exit(1);
        }
    }
}
