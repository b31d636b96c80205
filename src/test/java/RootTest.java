/** Promises 15 to 19: roots, remainders, bits, digits, and sums of two roots. */
public final class RootTest {
    private static final Check CHECK = new Check("RootTest");
    private static final long LARGEST = 1_000_000_000_000L;
    private static final long[] NO_NUMBERS = {-1, LARGEST + 1, Long.MAX_VALUE, Long.MIN_VALUE, -LARGEST};
    private static final int[] NO_KINDS = {1, 4, 0, -2, 6, Integer.MAX_VALUE, Integer.MIN_VALUE};

    public static void main(String[] args) {
        smallRoots();
        rootsAroundPowers();
        rootRefuses();
        remainderRefuses();
        bitsOf30();
        bitsOfCube();
        bitsAtTheEdges();
        bitRefuses();
        digits();
        digitsRefuses();
        compareByHand();
        compareAll();
        compareRefuses();
        CHECK.end();
    }

    private static void root(RootRows rows, long n, int kind, long due) {
        CHECK.due("P15 root(" + n + ", " + kind + ") by " + rows.count(3), rows.root(n, kind), due);
    }

    private static void smallRoots() {
        long[][] due = {
            {0, 0, 0, 0, 0, 0, 0}, {1, 1, 1, 1, 1, 1, 1}, {2, 1, 1, 2, 1, 1, 2}, {3, 1, 2, 2, 1, 1, 2},
            {4, 2, 2, 2, 1, 2, 2}, {6, 2, 2, 3, 1, 2, 2}, {7, 2, 3, 3, 1, 2, 2}, {8, 2, 3, 3, 2, 2, 2},
            {12, 3, 3, 4, 2, 2, 3}, {13, 3, 4, 4, 2, 2, 3}, {15, 3, 4, 4, 2, 2, 3}, {16, 4, 4, 4, 2, 3, 3},
            {26, 5, 5, 6, 2, 3, 3}, {27, 5, 5, 6, 3, 3, 3}, {28, 5, 5, 6, 3, 3, 4}, {30, 5, 5, 6, 3, 3, 4},
            {31, 5, 6, 6, 3, 3, 4}, {42, 6, 6, 7, 3, 3, 4}, {43, 6, 7, 7, 3, 4, 4}};
        for (int round = 0; round <= 2; round++) {
            RootRows rows = new RootRows();
            rows.set(0, round);
            for (long[] row : due) {
                root(rows, row[0], 2, row[1 + round]);
                root(rows, row[0], 3, row[4 + round]);
            }
        }
    }

    /** The numbers at a power, beside it, and at the half between two of them. */
    private static void rootsAroundPowers() {
        long[] roots = {1, 2, 3, 7, 8, 100, 1023, 1024, 4095, 8191, 8192, 9999, 10_000, 65_536, 524_287, 524_288,
            999_999, 1_000_000};
        for (int round = 0; round <= 2; round++) {
            RootRows rows = new RootRows();
            rows.set(0, round);
            for (long r : roots) {
                long square = r * r;
                root(rows, square, 2, r);
                root(rows, square - 1, 2, round == 0 || r == 1 ? r - 1 : r);
                CHECK.due("P16 remainder(" + square + ", 2)", rows.remainder(square, 2), 0);
                CHECK.due("P16 remainder(" + (square - 1) + ", 2)", rows.remainder(square - 1, 2), 2 * r - 2);
                if (r < 1_000_000) {
                    root(rows, square + r, 2, round == 2 ? r + 1 : r);
                    root(rows, square + r + 1, 2, round == 0 ? r : r + 1);
                    CHECK.due("P16 remainder behind " + square, rows.remainder(square + r, 2), r);
                }
                if (r <= 10_000) {
                    root(rows, r * r * r, 3, r);
                    root(rows, r * r * r - 1, 3, round == 0 || r == 1 ? r - 1 : r);
                    CHECK.due("P16 remainder of the third power", rows.remainder(r * r * r, 3), 0);
                    CHECK.due("P16 remainder ahead of it", rows.remainder(r * r * r - 1, 3), 3 * r * r - 3 * r);
                }
                if (r < 10_000) {
                    long half = (2 * r + 1) * (2 * r + 1) * (2 * r + 1) / 8;
                    root(rows, half, 3, round == 2 ? r + 1 : r);
                    root(rows, half + 1, 3, round == 0 ? r : r + 1);
                }
            }
        }
    }

    private static void rootRefuses() {
        RootRows rows = new RootRows();
        for (int kind : NO_KINDS) {
            CHECK.due("P15 root(9, " + kind + ")", rows.root(9, kind), -2);
        }
        for (long n : NO_NUMBERS) {
            CHECK.due("P15 root(" + n + ", 2)", rows.root(n, 2), -2);
            CHECK.due("P15 root(" + n + ", 3)", rows.root(n, 3), -2);
        }
        CHECK.due("P15 root is no change", rows.count(2), 0);
    }

    private static void remainderRefuses() {
        RootRows rows = new RootRows();
        for (int kind : NO_KINDS) {
            CHECK.due("P16 remainder(9, " + kind + ")", rows.remainder(9, kind), -2);
        }
        for (long n : NO_NUMBERS) {
            CHECK.due("P16 remainder(" + n + ", 2)", rows.remainder(n, 2), -2);
            CHECK.due("P16 remainder(" + n + ", 3)", rows.remainder(n, 3), -2);
        }
        rows.set(0, 2);
        CHECK.due("P16 remainder(26, 2) whatever ROUND is", rows.remainder(26, 2), 1);
        CHECK.due("P16 remainder(0, 3)", rows.remainder(0, 3), 0);
        CHECK.due("P16 remainder is no change", rows.count(2), 1);
    }

    private static void bits(RootRows rows, long n, int kind, long[][] due) {
        CHECK.due("P17 bit(" + n + ", " + kind + ", -1, 0)", rows.bit(n, kind, -1, 0), due.length);
        CHECK.due("P17 bit(" + n + ", " + kind + ", -1, 3)", rows.bit(n, kind, -1, 3), due.length);
        for (int step = 0; step < due.length; step++) {
            for (int what = 0; what < 4; what++) {
                CHECK.due("P17 bit(" + n + ", " + kind + ", " + step + ", " + what + ")",
                    rows.bit(n, kind, step, what), due[step][what]);
            }
        }
        for (int step : new int[] {due.length, due.length + 1, 64, Integer.MAX_VALUE}) {
            CHECK.due("P17 bit(" + n + ", " + kind + ", " + step + ", 0)", rows.bit(n, kind, step, 0), -6);
        }
    }

    private static void bitsOf30() {
        RootRows rows = new RootRows();
        long[][] due = {{4, 1, 4, 14}, {2, 0, 4, 14}, {1, 1, 5, 5}};
        bits(rows, 30, 2, due);
        rows.set(0, 2);
        bits(rows, 30, 2, due);
    }

    private static void bitsOfCube() {
        RootRows rows = new RootRows();
        bits(rows, 999, 3, new long[][] {{8, 1, 8, 487}, {4, 0, 8, 487}, {2, 0, 8, 487}, {1, 1, 9, 270}});
        bits(rows, 30, 3, new long[][] {{2, 1, 2, 22}, {1, 1, 3, 3}});
    }

    private static void bitsAtTheEdges() {
        RootRows rows = new RootRows();
        bits(rows, 0, 2, new long[][] {});
        bits(rows, 0, 3, new long[][] {});
        bits(rows, 1, 2, new long[][] {{1, 1, 1, 0}});
        bits(rows, 7, 3, new long[][] {{1, 1, 1, 6}});
        bits(rows, 15, 2, new long[][] {{2, 1, 2, 11}, {1, 1, 3, 6}});
        bits(rows, 16, 2, new long[][] {{4, 1, 4, 0}, {2, 0, 4, 0}, {1, 0, 4, 0}});
        CHECK.due("P17 bits of LARGEST", rows.bit(LARGEST, 2, -1, 0), 20);
        CHECK.due("P17 first bit of LARGEST", rows.bit(LARGEST, 2, 0, 0), 524_288);
        CHECK.due("P17 n less its power", rows.bit(LARGEST, 2, 0, 3), LARGEST - 524_288L * 524_288L);
        CHECK.due("P17 the last root so far", rows.bit(LARGEST, 2, 19, 2), 1_000_000);
        CHECK.due("P17 bits of LARGEST, kind 3", rows.bit(LARGEST, 3, -1, 0), 14);
        CHECK.due("P17 first bit of LARGEST, kind 3", rows.bit(LARGEST, 3, 0, 0), 8192);
        CHECK.due("P17 the last root so far, kind 3", rows.bit(LARGEST, 3, 13, 2), 10_000);
        CHECK.due("P17 no bit behind it", rows.bit(LARGEST, 3, 14, 2), -6);
    }

    private static void bitRefuses() {
        RootRows rows = new RootRows();
        for (long n : NO_NUMBERS) {
            CHECK.due("P17 bit(" + n + ", 2, 0, 0)", rows.bit(n, 2, 0, 0), -2);
        }
        for (int kind : NO_KINDS) {
            CHECK.due("P17 bit(9, " + kind + ", 0, 0)", rows.bit(9, kind, 0, 0), -2);
        }
        for (int what : new int[] {-1, 4, 5, Integer.MAX_VALUE, Integer.MIN_VALUE}) {
            CHECK.due("P17 bit(9, 2, 0, " + what + ")", rows.bit(9, 2, 0, what), -2);
            CHECK.due("P17 bit(9, 2, -1, " + what + ")", rows.bit(9, 2, -1, what), -2);
            CHECK.due("P17 an error is named ahead of NONE", rows.bit(9, 2, 50, what), -2);
        }
        for (int step : new int[] {-2, -3, Integer.MIN_VALUE}) {
            CHECK.due("P17 bit(9, 2, " + step + ", 0)", rows.bit(9, 2, step, 0), -2);
        }
        CHECK.due("P17 bit is no change", rows.count(2), 0);
    }

    private static void digits() {
        long[][] due = {
            {0, 0, 2, 1, 1, 2}, {1, 0, 2, 14, 14, 15}, {2, 0, 2, 141, 141, 142}, {3, 0, 2, 1414, 1414, 1415},
            {3, 0, 3, 1732, 1732, 1733}, {4, 0, 2, 14142, 14142, 14143}, {5, 0, 2, 141421, 141421, 141422},
            {6, 0, 2, 1414213, 1414214, 1414214}, {6, 0, 0, 0, 0, 0}, {6, 0, 1_000_000, 1_000_000_000, 1_000_000_000,
            1_000_000_000}, {6, 0, 999_999, 999_999_499, 999_999_500, 999_999_500}, {0, 0, 999_999, 999, 1000, 1000},
            {0, 0, 7, 2, 3, 3}, {3, 0, 1_000_000, 1_000_000, 1_000_000, 1_000_000}, {1, 0, 7, 26, 26, 27},
            {2, 0, 25, 500, 500, 500}};
        for (int round = 0; round <= 2; round++) {
            RootRows rows = new RootRows();
            rows.set(0, round);
            for (long[] row : due) {
                rows.set(1, (int) row[0]);
                CHECK.due("P18 digits(" + row[2] + ") with " + row[0] + " by " + round,
                    rows.digits((int) row[2]), row[3 + round]);
            }
        }
    }

    private static void digitsRefuses() {
        RootRows rows = new RootRows();
        CHECK.due("P18 digits(5) of a new object", rows.digits(5), 2236);
        for (int n : new int[] {-1, 1_000_001, Integer.MAX_VALUE, Integer.MIN_VALUE}) {
            CHECK.due("P18 digits(" + n + ")", rows.digits(n), -2);
        }
        CHECK.due("P18 digits is no change", rows.count(2), 0);
    }

    private static void compareByHand() {
        RootRows rows = new RootRows();
        int[][] due = {{0, 0, 0, 0, 0}, {1, 0, 0, 0, 1}, {0, 0, 1, 0, 2}, {4, 9, 25, 0, 0}, {9, 4, 0, 25, 0},
            {2, 8, 18, 0, 0}, {18, 0, 8, 2, 0}, {3, 12, 27, 0, 0}, {3, 12, 0, 28, 2}, {3, 12, 26, 0, 1},
            {2, 3, 3, 2, 0}, {2, 3, 10, 0, 2}, {10, 0, 2, 3, 1}, {5, 5, 20, 0, 0}, {5, 5, 4, 6, 1}, {4, 6, 5, 5, 2},
            {10_000, 10_000, 10_000, 10_000, 0}, {10_000, 10_000, 10_000, 9999, 1}, {10_000, 9998, 9999, 9999, 2},
            {0, 10_000, 2500, 2500, 0}, {2500, 2500, 0, 10_000, 0}, {10_000, 0, 2500, 2501, 2},
            {10_000, 0, 2499, 2500, 1}, {7, 7, 28, 0, 0}, {50, 2, 72, 0, 0}, {50, 2, 32, 8, 0}, {1, 16, 4, 9, 0},
            {1, 17, 4, 9, 1}, {10_000, 1, 9801, 4, 0}, {6, 8, 5, 9, 1}, {5000, 5002, 4999, 5003, 1}};
        for (int[] row : due) {
            CHECK.due("P19 compare(" + row[0] + ", " + row[1] + ", " + row[2] + ", " + row[3] + ")",
                rows.compare(row[0], row[1], row[2], row[3]), row[4]);
        }
        CHECK.due("P19 compare is no change", rows.count(2), 0);
    }

    /** All sums of roots up to 12, and sums of large ones that come close, against 60 digits. */
    private static void compareAll() {
        Model model = new Model();
        RootRows rows = new RootRows();
        for (int i = 0; i < 13 * 13 * 13 * 13; i++) {
            rows = i % 169 == 0 ? new RootRows() : rows;
            int a = i % 13;
            int b = i / 13 % 13;
            int c = i / 169 % 13;
            int d = i / 2197;
            CHECK.due("P19 compare(" + a + ", " + b + ", " + c + ", " + d + ")",
                rows.compare(a, b, c, d), model.compare(a, b, c, d));
        }
        for (int a = 9900; a <= 10_000; a += 7) {
            for (int b = a - 60; b <= a; b += 5) {
                rows = new RootRows();
                for (int c = b; c <= a; c += 3) {
                    double rest = Math.sqrt(a) + Math.sqrt(b) - Math.sqrt(c);
                    for (int d = Math.max(0, (int) (rest * rest) - 1); d <= Math.min(10_000, rest * rest + 2); d++) {
                        CHECK.due("P19 compare(" + a + ", " + b + ", " + c + ", " + d + ")",
                            rows.compare(a, b, c, d), model.compare(a, b, c, d));
                    }
                }
            }
        }
    }

    private static void compareRefuses() {
        RootRows rows = new RootRows();
        for (int bad : new int[] {-1, 10_001, Integer.MAX_VALUE, Integer.MIN_VALUE}) {
            for (int place = 0; place < 4; place++) {
                int[] numbers = {1, 2, 3, 4};
                numbers[place] = bad;
                CHECK.due("P19 compare with " + bad + " at " + place,
                    rows.compare(numbers[0], numbers[1], numbers[2], numbers[3]), -2);
            }
        }
    }
}
