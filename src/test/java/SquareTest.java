/** Promises 23 to 25: sums of two squares, powers in a span, sums of roots. */
public final class SquareTest {
    private static final Check CHECK = new Check("SquareTest");
    private static final long LARGEST = 1_000_000_000_000L;

    public static void main(String[] args) {
        twoSquares();
        allTwoSquares();
        twoSquaresRefuses();
        powers();
        manyPowers();
        powersRefuses();
        rootSum();
        rootSumsInARow();
        rootSumRefuses();
        CHECK.end();
    }

    private static void twoSquares() {
        RootRows rows = new RootRows();
        int[][] due = {{0, 1, 0, 0}, {1, 1, 0, 1}, {2, 1, 1, 1}, {3, 0, -6, -6}, {4, 1, 0, 2}, {5, 1, 1, 2},
            {6, 0, -6, -6}, {7, 0, -6, -6}, {8, 1, 2, 2}, {25, 2, 0, 5}, {50, 2, 1, 7}, {65, 2, 1, 8}, {325, 3, 1, 18},
            {1105, 4, 4, 33}, {5525, 6, 7, 74}, {999_999, 0, -6, -6}, {998_001, 2, 0, 999}};
        for (int[] row : due) {
            for (int what = 0; what < 3; what++) {
                CHECK.due("P23 twoSquares(" + row[0] + ", " + what + ")", rows.twoSquares(row[0], what), row[1 + what]);
            }
        }
        CHECK.due("P23 twoSquares(1000000, 0)", rows.twoSquares(1_000_000, 0), 4);
        CHECK.due("P23 twoSquares(1000000, 1)", rows.twoSquares(1_000_000, 1), 0);
        CHECK.due("P23 twoSquares(1000000, 2)", rows.twoSquares(1_000_000, 2), 1000);
        CHECK.due("P23 twoSquares is no change", rows.count(2), 0);
    }

    private static void allTwoSquares() {
        Model model = new Model();
        for (int n = 0; n <= 1_000_000; n += n < 500 ? 1 : 4999) {
            RootRows rows = new RootRows();
            for (int what = 0; what < 3; what++) {
                CHECK.due("P23 twoSquares(" + n + ", " + what + ")", rows.twoSquares(n, what), model.twoSquares(n, what));
            }
        }
    }

    private static void twoSquaresRefuses() {
        RootRows rows = new RootRows();
        for (int n : new int[] {-1, 1_000_001, Integer.MAX_VALUE, Integer.MIN_VALUE}) {
            CHECK.due("P23 twoSquares(" + n + ", 0)", rows.twoSquares(n, 0), -2);
        }
        for (int what : new int[] {-1, 3, 4, Integer.MAX_VALUE, Integer.MIN_VALUE}) {
            CHECK.due("P23 twoSquares(5, " + what + ")", rows.twoSquares(5, what), -2);
            CHECK.due("P23 an error is named ahead of NONE", rows.twoSquares(3, what), -2);
        }
    }

    private static void powers() {
        RootRows rows = new RootRows();
        long[][] due = {{0, 0, 1}, {0, 1, 2}, {1, 1, 1}, {2, 3, 0}, {4, 4, 1}, {8, 8, 1}, {5, 7, 0}, {8, 9, 2}, {9, 27, 4},
            {0, 100, 13}, {63, 65, 1}, {64, 64, 1}, {65, 80, 0}, {729, 729, 1}, {26, 27, 1}, {27, 28, 1}, {28, 35, 0},
            {LARGEST, LARGEST, 1}, {LARGEST - 1, LARGEST - 1, 0}, {0, LARGEST, 1_009_901}, {1, LARGEST, 1_009_900},
            {0, LARGEST - 1, 1_009_900}, {999_998_000_001L, LARGEST, 2}, {999_998_000_002L, LARGEST - 1, 0}};
        for (long[] row : due) {
            CHECK.due("P24 powers(" + row[0] + ", " + row[1] + ")", rows.powers(row[0], row[1]), row[2]);
        }
        CHECK.due("P24 powers is no change", rows.count(2), 0);
    }

    private static void manyPowers() {
        Model model = new Model();
        for (long from = 0; from < 140; from++) {
            RootRows rows = new RootRows();
            for (long to = from; to < 140; to++) {
                CHECK.due("P24 powers(" + from + ", " + to + ")", rows.powers(from, to), model.powers(from, to));
            }
        }
        RootRows rows = new RootRows();
        for (long r = 1; r < 100; r++) {
            long sixth = r * r * r * r * r * r;
            CHECK.due("P24 powers up to a sixth power", rows.powers(r, sixth), model.powers(r, sixth));
            CHECK.due("P24 powers ahead of it", rows.powers(0, sixth - 1), model.powers(0, sixth - 1));
            CHECK.due("P24 powers from it", rows.powers(sixth, LARGEST), model.powers(sixth, LARGEST));
        }
    }

    private static void powersRefuses() {
        RootRows rows = new RootRows();
        long[][] wrong = {{-1, 5}, {-1, -1}, {5, 4}, {1, 0}, {0, -1}, {0, LARGEST + 1}, {LARGEST + 1, LARGEST + 1},
            {LARGEST, LARGEST - 1}, {LARGEST + 1, LARGEST}, {Long.MIN_VALUE, 1}, {0, Long.MAX_VALUE},
            {Long.MIN_VALUE, Long.MAX_VALUE}, {0, Long.MIN_VALUE}, {Long.MAX_VALUE, Long.MAX_VALUE}};
        for (long[] row : wrong) {
            CHECK.due("P24 powers(" + row[0] + ", " + row[1] + ")", rows.powers(row[0], row[1]), -2);
        }
    }

    private static void rootSum() {
        RootRows rows = new RootRows();
        long[][] due = {{0, 0}, {1, 1}, {2, 2}, {3, 3}, {4, 5}, {8, 13}, {9, 16}, {10, 19}, {15, 34}, {16, 38},
            {99, 615}, {100, 625}, {1_000_000, 666_167_500}, {1_000_000_000, 21_081_351_099_627L}};
        for (long[] row : due) {
            CHECK.due("P25 rootSum(" + row[0] + ")", rows.rootSum((int) row[0]), row[1]);
        }
        rows.set(0, 2);
        CHECK.due("P25 rootSum(10) whatever ROUND is", rows.rootSum(10), 19);
        CHECK.due("P25 rootSum is no change", rows.count(2), 1);
    }

    private static void rootSumsInARow() {
        RootRows rows = new RootRows();
        long sum = 0;
        for (int n = 0; n <= 3000; n++) {
            sum += Model.rootDown(java.math.BigInteger.valueOf(n), 2);
            CHECK.due("P25 rootSum(" + n + ")", new RootRows().rootSum(n), sum);
        }
        Model model = new Model();
        for (int n : new int[] {999_950_883, 999_950_884, 999_950_885, 999_999_999, 536_870_912, 123_456_789}) {
            CHECK.due("P25 rootSum(" + n + ")", rows.rootSum(n), model.rootSum(n));
        }
    }

    private static void rootSumRefuses() {
        RootRows rows = new RootRows();
        for (int n : new int[] {-1, 1_000_000_001, Integer.MAX_VALUE, Integer.MIN_VALUE}) {
            CHECK.due("P25 rootSum(" + n + ")", rows.rootSum(n), -2);
        }
    }
}
