import java.lang.management.ManagementFactory;
import java.lang.management.ThreadMXBean;

/**
 * No call throws or changes anything by an error, for any arguments; and 512 of the dearest calls stay small.
 */
public final class LimitsTest {
    private static final Check CHECK = new Check("LimitsTest");
    private static final long[] NUMBERS = {Long.MIN_VALUE, Integer.MIN_VALUE, -1_000_000_000_001L, -7, -6, -2, -1, 0, 1, 2,
        3, 4, 5, 6, 7, 8, 9, 60, 61, 100, 101, 500, 501, 10_000, 10_001, 100_000, 100_001, 1_000_000, 1_000_001,
        1_000_000_000, 1_000_000_001, Integer.MAX_VALUE, 999_999_999_999L, 1_000_000_000_000L, 1_000_000_000_001L,
        Long.MAX_VALUE};

    public static void main(String[] args) {
        anyArguments();
        errorsChangeNothing();
        dearCalls();
        roomOfDearCalls();
        CHECK.end();
    }

    private static RootRows filled() {
        RootRows rows = new RootRows();
        rows.set(0, 1);
        rows.setCell(0, 1_000_000_000_000L);
        rows.setCell(3, 144);
        Check.make(rows, 0, "A*A-1");
        Check.make(rows, 1, "q(D)+k(A)");
        Check.make(rows, 4, "D-1");
        rows.save(1);
        Check.type(rows, "q(1+");
        return rows;
    }

    /** All pairs of these numbers, in every method; an answer below -6 is none that the document knows. */
    private static void anyArguments() {
        for (long first : NUMBERS) {
            for (long second : NUMBERS) {
                int a = (int) first;
                int b = (int) second;
                RootRows rows = filled();
                try {
                    long[] answers = {rows.set(a, b), rows.setCell(a, second), rows.cell(a), rows.put(first), rows.fault(),
                        rows.load(a), rows.assign(a, b), rows.settle(a, b, 100), rows.settle(1, a, b), rows.value(a),
                        rows.ofFormula(a, b), rows.stepValue(a, b), rows.count(a), rows.root(first, b),
                        rows.remainder(first, b), rows.bit(first, 2, b, 1), rows.bit(first, 3, -1, b), rows.bit(first, b, 3, 3),
                        rows.digits(a), rows.compare(a, b, 3, 4), rows.compare(5, 6, a, b), rows.period(a), rows.term(a, b),
                        rows.convergent(a, b, 0), rows.convergent(7, a, b), rows.twoSquares(a, b), rows.powers(first, second),
                        rows.rootSum(a), rows.undo(), rows.save(a), rows.restore(b), rows.restore(a), rows.wipe(),
                        rows.undo()};
                    for (int i = 0; i < answers.length; i++) {
                        CHECK.isTrue("answer " + i + " to " + first + ", " + second + " is known", answers[i] >= -6);
                    }
                } catch (RuntimeException | StackOverflowError e) {
                    CHECK.isTrue("no call throws " + e + " with " + first + ", " + second, false);
                }
            }
        }
    }

    private static String stateOf(RootRows rows) {
        StringBuilder state = new StringBuilder();
        for (int i = 0; i < 8; i++) state.append(rows.cell(i)).append(' ');
        for (int i = 0; i < 6; i++) {
            state.append(rows.count(i)).append(' ').append(rows.value(i)).append(' ');
            for (int what = 0; what < 5; what++) state.append(rows.ofFormula(i, what)).append(' ');
        }
        return state.append(rows.fault()).toString();
    }

    private static void errorsChangeNothing() {
        String before = stateOf(filled());
        for (long first : NUMBERS) {
            RootRows rows = filled();
            int a = (int) first;
            long[] answers = {rows.set(2, a), rows.set(1, -1), rows.setCell(8, first), rows.setCell(3, -1), rows.put(0x4100),
                rows.put(0xff41), rows.load(6), rows.load(2), rows.assign(8, 1), rows.assign(2, 2), rows.assign(2, 0),
                rows.settle(-1, 1, 5), rows.settle(2, 3, 5), rows.settle(2, 1, 0), rows.settle(2, 1, 101),
                rows.ofFormula(1, 7), rows.stepValue(1, 9), rows.restore(0), rows.restore(2), rows.save(-1), rows.count(-1)};
            for (int i = 0; i < answers.length; i++) {
                CHECK.isTrue("answer " + i + " is an error", answers[i] < 0 && answers[i] > -6);
            }
            CHECK.isTrue("errors change nothing", before.equals(stateOf(rows)));
            CHECK.due("P28 restore(1) still", rows.restore(1), 19);
        }
    }

    private static void dearCalls() {
        RootRows rows = new RootRows();
        rows.setCell(0, 1_000_000_000_000L);
        Check.make(rows, 0, "q(q(q(q(q(q(q(q(q(q(q(q(q(q(q(q(q(q(A-1+1))))))))))))))))))");
        Check.make(rows, 1, "k(A)*k(A)*q(B+999)-B*k(A)+q(A)*q(A)-q(A)*k(A)*k(C+77)-B+1");
        for (int i = 0; i < 96; i++) {
            rows.settle(1 + i % 2, i % 2, 100);
            rows.rootSum(1_000_000_000);
            rows.period(99_999);
            rows.convergent(99_999, 500, 0);
            rows.twoSquares(999_999, 0);
        }
        CHECK.due("P14 count(2) behind many settles", rows.count(2), 6);
        CHECK.due("P12 steps of the long formula", rows.ofFormula(1, 0), 36);
    }

    /** All calls of a run live in one room, which nothing leaves: 512 of any sort may take a part of it only. */
    private static void roomOfDearCalls() {
        long before = bytesMade();
        RootRows rows = null;
        for (int i = 0; i < 512; i++) {
            if (i % 32 == 0) {
                rows = new RootRows();
                Check.make(rows, 0, "k(A)*k(A)*q(B+999)-B*k(A)+q(A)*q(A)-q(A)*k(A)*k(C+77)-B+1");
            }
            rows.settle(1 + i % 2, 0, 100);
            rows.stepValue(0, 20);
            rows.save(i % 2);
            rows.restore(i % 2);
            rows.undo();
            rows.rootSum(999_999_999 - i);
            rows.period(99_000 + i);
            rows.convergent(99_000 + i, 500, 0);
            rows.twoSquares(999_000 + i, 0);
            rows.bit(999_999_999_999L, 2, 19, 3);
            rows.put('A');
            rows.fault();
            rows.load(3);
        }
        CHECK.isTrue("512 calls of each sort make less than 4 MB", bytesMade() - before < 4_000_000);
    }

    private static long bytesMade() {
        ThreadMXBean threads = ManagementFactory.getThreadMXBean();
        if (threads instanceof com.sun.management.ThreadMXBean) {
            return ((com.sun.management.ThreadMXBean) threads).getThreadAllocatedBytes(Thread.currentThread().getId());
        }
        return 0;
    }
}
