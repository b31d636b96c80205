/**
 * The boundary cases of the promises 23 to 25: sums of two squares, powers in a span, and sums of roots. A method
 * holds one sentence, which its comment quotes.
 */
public final class SquareEdgesTest {
    private static final Check CHECK = new Check("SquareEdgesTest");
    private static final long LARGEST = 1_000_000_000_000L;

    public static void main(String[] args) {
        CHECK.runAll(SquareEdgesTest.class);
        CHECK.end();
    }

    // ---- promise 23: twoSquares

    private static void inSquares(int n, int ways, int leastA, int itsB) {
        RootRows rows = new RootRows();
        CHECK.due("twoSquares(" + n + ", 0)", rows.twoSquares(n, 0), ways);
        CHECK.due("twoSquares(" + n + ", 1)", rows.twoSquares(n, 1), leastA);
        CHECK.due("twoSquares(" + n + ", 2)", rows.twoSquares(n, 2), itsB);
    }

    /** Promise 23, "`n`: 0 to 1000000": both ends. */
    private static void twoSquaresOf0AndOfAMillion() {
        inSquares(0, 1, 0, 0);
        inSquares(1, 1, 0, 1);
        inSquares(1_000_000, 4, 0, 1000);
        inSquares(999_999, 0, -6, -6);
        inSquares(999_997, 2, 194, 981);
    }

    /** Promise 23, "a * a + b * b with a at most b": a may be b, and 0; a way is not counted twice. */
    private static void twoSquaresWithAEqualToBAndWithA0() {
        inSquares(2, 1, 1, 1);
        inSquares(8, 1, 2, 2);
        inSquares(4, 1, 0, 2);
        inSquares(5, 1, 1, 2);
        inSquares(998_001, 2, 0, 999);
        inSquares(998_002, 4, 1, 999);
        inSquares(980_000, 3, 140, 980);
    }

    /** Promise 23, "0 how many ways there are": none is 0, and 16 are the most. */
    private static void twoSquaresCountsFrom0To16Ways() {
        CHECK.due("twoSquares(3, 0)", new RootRows().twoSquares(3, 0), 0);
        CHECK.due("twoSquares(999998, 0)", new RootRows().twoSquares(999_998, 0), 0);
        inSquares(25, 2, 0, 5);
        inSquares(50, 2, 1, 7);
        inSquares(325, 3, 1, 18);
        inSquares(801_125, 16, 10, 895);
    }

    /** Promise 23, "1 the least a, 2 the b that belongs to it". */
    private static void twoSquaresTellsTheLeastAAndItsB() {
        inSquares(65, 2, 1, 8);
        inSquares(1105, 4, 4, 33);
        inSquares(5525, 6, 7, 74);
        inSquares(160_225, 12, 15, 400);
    }

    /** Promise 23, "BAD_VALUE if an argument is out of range", of n. */
    private static void twoSquaresRefusesAnNOutOfRange() {
        for (int n : Check.outside(0, 1_000_000)) {
            for (int what = 0; what <= 2; what++) {
                int asked = what;
                CHECK.refused("twoSquares(" + n + ", " + what + ")", rows -> rows.twoSquares(n, asked), -2);
            }
        }
    }

    /** Promise 23, "BAD_VALUE if an argument is out of range", of what: also where NONE would be due otherwise. */
    private static void twoSquaresRefusesAWhatOutOfRange() {
        for (int what : Check.outside(0, 2)) {
            CHECK.refused("twoSquares(50, " + what + ")", rows -> rows.twoSquares(50, what), -2);
            CHECK.refused("twoSquares(3, " + what + ")", rows -> rows.twoSquares(3, what), -2);
            CHECK.refused("twoSquares(0, " + what + ")", rows -> rows.twoSquares(0, what), -2);
        }
    }

    /** Promise 23, "NONE if there is no way (for 1 and 2)": and not for 0. */
    private static void twoSquaresIsNoneIfThereIsNoWay() {
        inSquares(3, 0, -6, -6);
        inSquares(6, 0, -6, -6);
        inSquares(7, 0, -6, -6);
        inSquares(999_998, 0, -6, -6);
        inSquares(999_999, 0, -6, -6);
    }

    // ---- promise 24: powers

    private static void counted(long from, long to, int due) {
        CHECK.due("powers(" + from + ", " + to + ")", new RootRows().powers(from, to), due);
    }

    /** Promise 24, "`from`: 0 to LARGEST", "`to`: from to LARGEST": the whole range, and its ends. */
    private static void powersFrom0ToLargest() {
        counted(0, LARGEST, 1_009_901);
        counted(1, LARGEST, 1_009_900);
        counted(0, LARGEST - 1, 1_009_900);
        counted(0, 0, 1);
        counted(0, 1, 2);
        counted(1, 1, 1);
        counted(LARGEST, LARGEST, 1);
        counted(LARGEST - 1, LARGEST - 1, 0);
        counted(LARGEST - 1, LARGEST, 1);
    }

    /** Promise 24, "Counts the numbers of a span": both ends belong to it. */
    private static void powersCountsBothEnds() {
        counted(4, 9, 3);
        counted(5, 8, 1);
        counted(8, 8, 1);
        counted(9, 9, 1);
        counted(5, 7, 0);
        counted(2, 3, 0);
        counted(10, 15, 0);
        counted(999_998_000_001L, 999_998_000_001L, 1);
        counted(999_998_000_002L, LARGEST - 1, 0);
        counted(999_700_029_999L, 999_700_029_999L, 1);
        counted(999_700_030_000L, 999_700_030_000L, 0);
    }

    /** Promise 24, "that are squares or third powers (or both)": both are counted once. */
    private static void powersCountsWhatIsBothOnce() {
        counted(64, 64, 1);
        counted(63, 65, 1);
        counted(729, 729, 1);
        counted(0, 64, 11);
        counted(0, 63, 10);
        counted(1_000_000, 1_000_000, 1);
        counted(LARGEST, LARGEST, 1);
        counted(941_480_149_401L, 941_480_149_401L, 1);
    }

    /** Promise 24, "BAD_VALUE if an argument is out of range", of from. */
    private static void powersRefusesAFromOutOfRange() {
        for (long from : Check.outsideLong(0, LARGEST)) {
            CHECK.refused("powers(" + from + ", LARGEST)", rows -> rows.powers(from, LARGEST), -2);
            CHECK.refused("powers(" + from + ", " + from + ")", rows -> rows.powers(from, from), -2);
            CHECK.refused("powers(" + from + ", 0)", rows -> rows.powers(from, 0), -2);
        }
    }

    /** Promise 24, "BAD_VALUE if an argument is out of range", of to: above LARGEST. */
    private static void powersRefusesAToAboveLargest() {
        for (long to : Check.outsideLong(0, LARGEST)) {
            CHECK.refused("powers(0, " + to + ")", rows -> rows.powers(0, to), -2);
            CHECK.refused("powers(LARGEST, " + to + ")", rows -> rows.powers(LARGEST, to), -2);
        }
    }

    /** Promise 24, "`to`: from to LARGEST": a to below from. */
    private static void powersRefusesAToBelowFrom() {
        CHECK.refused("powers(1, 0)", rows -> rows.powers(1, 0), -2);
        CHECK.refused("powers(10, 9)", rows -> rows.powers(10, 9), -2);
        CHECK.refused("powers(LARGEST, LARGEST - 1)", rows -> rows.powers(LARGEST, LARGEST - 1), -2);
        CHECK.refused("powers(LARGEST, 0)", rows -> rows.powers(LARGEST, 0), -2);
    }

    // ---- promise 25: rootSum

    /** Promise 25, "`n`: 0 to 1000000000": both ends, and the numbers beside them. */
    private static void rootSumOf0AndOfAThousandMillion() {
        RootRows rows = new RootRows();
        CHECK.due("rootSum(0)", rows.rootSum(0), 0);
        CHECK.due("rootSum(1)", rows.rootSum(1), 1);
        CHECK.due("rootSum(999999999)", rows.rootSum(999_999_999), 21_081_351_068_005L);
        CHECK.due("rootSum(1000000000)", rows.rootSum(1_000_000_000), 21_081_351_099_627L);
    }

    /** Promise 25, "the sum of the square roots, rounded down, of all numbers from 0 to n": at and below squares. */
    private static void rootSumAtAndBelowSquares() {
        RootRows rows = new RootRows();
        long[][] due = {{2, 2}, {3, 3}, {4, 5}, {8, 13}, {9, 16}, {15, 34}, {16, 38}, {99, 615}, {100, 625},
            {999_950_883, 21_079_797_921_853L}, {999_950_884, 21_079_797_953_475L}};
        for (long[] row : due) {
            CHECK.due("rootSum(" + row[0] + ")", rows.rootSum((int) row[0]), row[1]);
        }
    }

    /** Promise 25, "rounded down": whatever ROUND is. */
    private static void rootSumIsRoundedDownByEachRound() {
        for (int round = 0; round <= 2; round++) {
            RootRows rows = new RootRows();
            rows.set(RootRows.ROUND, round);
            CHECK.due("rootSum(8) by " + round, rows.rootSum(8), 13);
            CHECK.due("rootSum(1000000000) by " + round, rows.rootSum(1_000_000_000), 21_081_351_099_627L);
        }
    }

    /** Promise 25, "BAD_VALUE if n is out of range." */
    private static void rootSumRefusesAnNOutOfRange() {
        for (int n : Check.outside(0, 1_000_000_000)) {
            CHECK.refused("rootSum(" + n + ")", rows -> rows.rootSum(n), -2);
        }
    }
}
