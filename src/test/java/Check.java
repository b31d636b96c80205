/** Compares answers with those that are due, and ends the run by exit code 1 if one was another. */
final class Check {
    private static final int MOST_SHOWN = 40;
    private static final long MOST_MILLIS = 300_000;

    private final String test;
    private int wrong;
    private int seen;

    Check(String test) {
        this.test = test;
        endIfItHangs(test);
    }

    void due(String call, long got, long want) {
        seen++;
        if (got == want) {
            return;
        }
        wrong++;
        if (wrong <= MOST_SHOWN) {
            System.out.println(test + ": " + call + " answered " + got + ", due is " + want);
        }
    }

    void isTrue(String what, boolean holds) {
        due(what + " (1 if it holds)", holds ? 1 : 0, 1);
    }

    int wrong() {
        return wrong;
    }

    void end() {
        System.out.println(test + ": " + seen + " answers, " + wrong + " not as due");
        if (wrong != 0 || seen == 0) {
            System.exit(1);
        }
    }

    /** Up to 8 characters as the number that put takes. */
    static long packed(String text) {
        long number = 0;
        for (int i = 0; i < text.length(); i++) {
            number = number << 8 | text.charAt(i);
        }
        return number;
    }

    /** Puts the whole text on the pad. */
    static void type(RootRows rows, String text) {
        for (int i = 0; i < text.length(); i += 8) {
            rows.put(packed(text.substring(i, Math.min(i + 8, text.length()))));
        }
    }

    /** Makes the text the formula with this number, and returns what load answers. */
    static int make(RootRows rows, int formula, String text) {
        rows.wipe();
        type(rows, text);
        return rows.load(formula);
    }

    /** The fault of the text on a pad that is empty ahead of it. */
    static int faultOf(RootRows rows, String text) {
        rows.wipe();
        type(rows, text);
        return rows.fault();
    }

    // A call that does not end must fail the test, not hold up the others.
    private static void endIfItHangs(String test) {
        Thread watch = new Thread(() -> {
            try {
                Thread.sleep(MOST_MILLIS);
            } catch (InterruptedException e) {
                return;
            }
            System.out.println(test + ": did not end in time");
            Runtime.getRuntime().halt(1);
        });
        watch.setDaemon(true);
        watch.start();
    }
}
