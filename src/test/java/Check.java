import java.lang.reflect.InvocationTargetException;
import java.lang.reflect.Method;
import java.lang.reflect.Modifier;
import java.util.Arrays;
import java.util.Comparator;
import java.util.function.Supplier;

/** Compares answers with those that are due, and ends the run by exit code 1 if one was another. */
final class Check {
    private static final int MOST_SHOWN = 40;
    private static final long MOST_MILLIS = 300_000;

    /** A call of an object, with its answer. */
    interface Call {
        long on(RootRows rows);
    }

    private final String test;
    private String method = "";
    private int wrong;
    private int seen;

    Check(String test) {
        this.test = test;
        endIfItHangs(test);
    }

    void due(String call, long got, long want) {
        seen++;
        if (got == want) {
            return;
        }
        wrong++;
        if (wrong <= MOST_SHOWN) {
            System.out.println(test + method + ": " + call + " answered " + got + ", due is " + want);
        }
    }

    void isTrue(String what, boolean holds) {
        due(what + " (1 if it holds)", holds ? 1 : 0, 1);
    }

    int wrong() {
        return wrong;
    }

    void end() {
        System.out.println(test + ": " + seen + " answers, " + wrong + " not as due");
        if (wrong != 0 || seen == 0) {
            System.exit(1);
        }
    }

    /** Runs every method of the test that takes nothing, so that none can be left out; each has to check something. */
    void runAll(Class<?> tests) {
        Method[] methods = tests.getDeclaredMethods();
        Arrays.sort(methods, Comparator.comparing(Method::getName));
        for (Method each : methods) {
            if (Modifier.isStatic(each.getModifiers()) && each.getParameterCount() == 0
                    && each.getReturnType() == void.class && !each.isSynthetic()) {
                method = "." + each.getName();
                int before = seen;
                run(each);
                isTrue("something was checked", seen > before);
            }
        }
        method = "";
    }

    private void run(Method each) {
        try {
            each.setAccessible(true);
            each.invoke(null);
        } catch (InvocationTargetException e) {
            isTrue("nothing was thrown, but " + e.getCause(), false);
        } catch (IllegalAccessException e) {
            isTrue("it could be run, but " + e, false);
        }
    }

    /** The call answers by this error on a filled object, and nothing that can be seen of the object is different. */
    void refused(String name, Call call, int error) {
        refused(name, Check::filled, call, error);
    }

    /** The same for objects that are made alike in this way: one of the two gets the call, the other does not. */
    void refused(String name, Supplier<RootRows> made, Call call, int error) {
        RootRows rows = made.get();
        due(name, call.on(rows), error);
        isTrue(name + " changes nothing", Seen.all(rows).equals(Seen.all(made.get())));
    }

    /**
     * An object with a full history and one slot that was saved in. The formulas 0 (too large), 1 and 4 are there,
     * 2, 3 and 5 are not; the pad holds a text without a fault.
     */
    static RootRows filled() {
        RootRows rows = new RootRows();
        rows.set(RootRows.ROUND, 1);
        rows.setCell(0, RootRows.LARGEST);
        rows.setCell(3, 144);
        make(rows, 0, "A*A-1");
        make(rows, 1, "q(D)+k(A)");
        rows.save(1);
        make(rows, 4, "D-1");
        rows.setCell(7, 5);
        type(rows, "H+2");
        return rows;
    }

    /** Numbers outside of the range: those beside it, the least and the greatest, and some that a cast would bring in. */
    static int[] outside(int least, int most) {
        return new int[] {least - 1, most + 1, Integer.MIN_VALUE, Integer.MAX_VALUE, Integer.MIN_VALUE + least + 1};
    }

    static long[] outsideLong(long least, long most) {
        return new long[] {least - 1, most + 1, Long.MIN_VALUE, Long.MAX_VALUE, Integer.MIN_VALUE,
            Long.MIN_VALUE + least + 1, (1L << 62) + least + 1, -(1L << 32) + least + 1};
    }

    /** Up to 8 characters as the number that put takes. */
    static long packed(String text) {
        long number = 0;
        for (int i = 0; i < text.length(); i++) {
            number = number << 8 | text.charAt(i);
        }
        return number;
    }

    /** Puts the whole text on the pad. */
    static void type(RootRows rows, String text) {
        for (int i = 0; i < text.length(); i += 8) {
            rows.put(packed(text.substring(i, Math.min(i + 8, text.length()))));
        }
    }

    /** Makes the text the formula with this number, and returns what load answers. */
    static int make(RootRows rows, int formula, String text) {
        rows.wipe();
        type(rows, text);
        return rows.load(formula);
    }

    /** The fault of the text on a pad that is empty ahead of it. */
    static int faultOf(RootRows rows, String text) {
        rows.wipe();
        type(rows, text);
        return rows.fault();
    }

    // A call that does not end must fail the test, not hold up the others.
    private static void endIfItHangs(String test) {
        Thread watch = new Thread(() -> {
            try {
                Thread.sleep(MOST_MILLIS);
            } catch (InterruptedException e) {
                return;
            }
            System.out.println(test + ": did not end in time");
            Runtime.getRuntime().halt(1);
        });
        watch.setDaemon(true);
        watch.start();
    }
}
