/**
 * Runs of some 510 mixed calls on new objects, as many as an object promises, each answer held against the model's.
 * The numbers come from a fixed row, so that every run of the test is the same.
 */
public final class RandomRunsTest {
    private static final Check CHECK = new Check("RandomRunsTest");
    private static final int RUNS = 600;
    private static final int CALLS = 512;
    private static final int MOST_TYPED = 10;
    private static final long LARGEST = 1_000_000_000_000L;
    private static final String SIGNS = "0123456789ABCDEFGHqks()+-*";

    private long seed;
    private int made;
    private RootRows rows;
    private Model model;
    private String call;

    public static void main(String[] args) {
        for (int run = 0; run < RUNS && CHECK.wrong() == 0; run++) {
            new RandomRunsTest().run(run);
        }
        CHECK.end();
    }

    private void run(int number) {
        seed = number * 7919L + 17;
        rows = new RootRows();
        model = new Model();
        // Some runs are of one sort of calls, so that their states go far.
        int sort = number % 4;
        made = 0;
        for (int i = 0; made < CALLS - MOST_TYPED; i++) {
            made++;
            long[] answers = sort == 0 ? anyCall(below(30)) : sort == 1 ? anyCall(below(16)) : mixedCall();
            CHECK.due("run " + number + ", call " + i + ", " + call, answers[0], answers[1]);
        }
    }

    private long[] mixedCall() {
        int pick = below(12);
        if (pick < 3) return typed();
        if (pick < 5) return anyCall(6);
        if (pick < 8) return anyCall(7 + below(6));
        if (pick < 9) return anyCall(25 + below(3));
        return anyCall(below(14));
    }

    private int below(int end) {
        seed = seed * 6364136223846793005L + 1442695040888963407L;
        return (int) ((seed >>> 33) % end);
    }

    /** Mostly in the range, sometimes at its edges or outside. */
    private int from(int least, int most) {
        switch (below(24)) {
            case 0: return least;
            case 1: return most;
            case 2: return below(4) == 0 ? least - 1 : least;
            case 3: return below(4) == 0 ? most + 1 : most;
            case 4: return below(8) == 0 ? Integer.MIN_VALUE : least + below(most - least + 1);
            case 5: return below(8) == 0 ? Integer.MAX_VALUE : least + below(most - least + 1);
            default: return least + below(most - least + 1);
        }
    }

    private long large() {
        switch (below(12)) {
            case 0: return below(100);
            case 1: return LARGEST - below(3);
            case 2: return LARGEST + below(2);
            case 3: return -below(2);
            case 4: return below(20) == 0 ? Long.MIN_VALUE : 1;
            case 5: return below(20) == 0 ? Long.MAX_VALUE : 0;
            case 6: case 7: {
                long r = below(1_000_001);
                return Math.max(0, Math.min(LARGEST, r * r + below(3) - 1));
            }
            case 8: {
                long r = below(10_001);
                return Math.max(0, Math.min(LARGEST, r * r * r + below(3) - 1));
            }
            default: return Math.floorMod(below(1_000_000_000) * 1000L + below(1000), LARGEST + 1) >> below(40);
        }
    }

    /** A formula by the grammar. */
    private String formula(int depth) {
        StringBuilder text = new StringBuilder(factor(depth));
        for (int more = below(3); more > 0; more--) {
            text.append("+-*+*".charAt(below(5))).append(factor(depth));
        }
        return text.toString();
    }

    private String factor(int depth) {
        int pick = below(depth > 0 ? 8 : 4);
        if (pick < 2) return "" + (below(3) == 0 ? below(10_000) : below(12));
        if (pick < 4) return "" + (char) ('A' + below(8));
        return (pick == 4 ? "" : "" + "qks".charAt(below(3))) + "(" + formula(depth - 1) + ")";
    }

    private String text() {
        String text = formula(below(5));
        if (below(5) == 0) {
            int at = below(text.length() + 1);
            text = text.substring(0, at) + SIGNS.charAt(below(SIGNS.length())) + text.substring(at);
        }
        if (below(8) == 0) text = text.substring(0, below(text.length() + 1));
        return text.length() > 60 ? text.substring(0, 60) : text;
    }

    private long[] typed() {
        String text = text();
        made++;
        rows.wipe();
        model.wipe();
        for (int i = 0; i < text.length(); i += 8) {
            long packed = Check.packed(text.substring(i, Math.min(i + 8, text.length())));
            made++;
            rows.put(packed);
            model.put(packed);
        }
        call = "fault() of " + text;
        return new long[] {rows.fault(), model.fault()};
    }

    private long characters() {
        int size = 1 + below(8);
        StringBuilder text = new StringBuilder();
        for (int i = 0; i < size; i++) {
            text.append(below(20) == 0 ? (char) below(256) : SIGNS.charAt(below(SIGNS.length())));
        }
        return Check.packed(text.toString());
    }

    private long[] anyCall(int pick) {
        return pick < 14 ? formulaCall(pick) : numberCall(pick);
    }

    private long[] formulaCall(int pick) {
        int a = pick == 2 || pick == 8 || pick == 9 ? from(0, 7) : pick == 1 ? from(0, 1) : from(0, 5);
        int b = pick == 1 ? from(0, a == 0 ? 2 : 6) : pick == 8 || pick == 9 ? from(0, 5) : from(0, 4);
        int c = from(1, 100);
        long n = large();
        switch (pick) {
            case 0: call = "undo()"; return pair(rows.undo(), model.undo());
            case 1: call = "set(" + a + ", " + b + ")"; return pair(rows.set(a, b), model.set(a, b));
            case 2: call = "setCell(" + a + ", " + n + ")"; return pair(rows.setCell(a, n), model.setCell(a, n));
            case 3: call = "cell(" + b + ")"; return pair(rows.cell(b), model.cell(b));
            case 4: n = characters(); call = "put(" + n + ")"; return pair(rows.put(n), model.put(n));
            case 5: call = "wipe()"; return pair(rows.wipe(), model.wipe());
            case 6: case 7: call = "load(" + a + ")"; return pair(rows.load(a), model.load(a));
            case 8: call = "assign(" + a + ", " + b + ")"; return pair(rows.assign(a, b), model.assign(a, b));
            case 9: call = "settle(" + a + ", " + b + ", " + c + ")";
                return pair(rows.settle(a, b, c), model.settle(a, b, c));
            case 10: call = "value(" + a + ")"; return pair(rows.value(a), model.value(a));
            case 11: call = "ofFormula(" + a + ", " + b + ")"; return pair(rows.ofFormula(a, b), model.ofFormula(a, b));
            case 12: c = from(0, 12); call = "stepValue(" + a + ", " + c + ")";
                return pair(rows.stepValue(a, c), model.stepValue(a, c));
            default: call = "count(" + a + ")"; return pair(rows.count(a), model.count(a));
        }
    }

    private long[] numberCall(int pick) {
        long n = large();
        long m = large();
        int kind = from(2, 3);
        int what = from(0, 3);
        int step = from(-1, 21);
        int million = from(0, 1_000_000);
        int small = below(2) == 0 ? below(120) : from(0, 100_000);
        int term = below(2) == 0 ? below(40) : from(0, 500);
        int part = from(0, 1);
        int slot = from(0, 1);
        switch (pick) {
            case 14: call = "fault()"; return pair(rows.fault(), model.fault());
            case 15: return typed();
            case 16: call = "root(" + n + ", " + kind + ")"; return pair(rows.root(n, kind), model.root(n, kind));
            case 17: call = "remainder(" + n + ", " + kind + ")";
                return pair(rows.remainder(n, kind), model.remainder(n, kind));
            case 18: call = "bit(" + n + ", " + kind + ", " + step + ", " + what + ")";
                return pair(rows.bit(n, kind, step, what), model.bit(n, kind, step, what));
            case 19: call = "digits(" + million + ")"; return pair(rows.digits(million), model.digits(million));
            case 20: return compared();
            case 21: call = "period(" + small + ")"; return pair(rows.period(small), model.period(small));
            case 22: call = "term(" + small + ", " + term + ")"; return pair(rows.term(small, term), model.term(small, term));
            case 23: call = "convergent(" + small + ", " + term % 50 + ", " + part + ")";
                return pair(rows.convergent(small, term % 50, part), model.convergent(small, term % 50, part));
            case 24: what = from(0, 2); call = "twoSquares(" + million + ", " + what + ")";
                return pair(rows.twoSquares(million, what), model.twoSquares(million, what));
            case 25: call = "save(" + slot + ")"; return pair(rows.save(slot), model.save(slot));
            case 26: call = "restore(" + slot + ")"; return pair(rows.restore(slot), model.restore(slot));
            case 27: call = "undo()"; return pair(rows.undo(), model.undo());
            case 28: call = "powers(" + n + ", " + m + ")"; return pair(rows.powers(n, m), model.powers(n, m));
            default: small = from(0, 1_000_000_000); call = "rootSum(" + small + ")";
                return pair(rows.rootSum(small), model.rootSum(small));
        }
    }

    private long[] compared() {
        int most = below(2) == 0 ? 50 : 10_000;
        int a = from(0, most);
        int b = from(0, most);
        int c = below(3) == 0 ? b : from(0, most);
        int d = below(3) == 0 ? a : from(0, most);
        call = "compare(" + a + ", " + b + ", " + c + ", " + d + ")";
        return pair(rows.compare(a, b, c, d), model.compare(a, b, c, d));
    }

    private static long[] pair(long got, long due) {
        return new long[] {got, due};
    }
}
