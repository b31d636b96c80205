/**
 * The boundary cases of the promises 15 to 19: roots, remainders, bits, digits, and sums of two roots. A method holds
 * one sentence, which its comment quotes. (The cases of the roots' own terms stand in TermsEdgesTest.)
 */
public final class RootEdgesTest {
    private static final Check CHECK = new Check("RootEdgesTest");
    private static final long LARGEST = 1_000_000_000_000L;
    private static final int[] KINDS = {2, 3};

    public static void main(String[] args) {
        CHECK.runAll(RootEdgesTest.class);
        CHECK.end();
    }

    private static RootRows by(int round, int digits) {
        RootRows rows = new RootRows();
        rows.set(RootRows.ROUND, round);
        rows.set(RootRows.DIGITS, digits);
        return rows;
    }

    // ---- promise 15: root

    /** Promise 15, "`n`: 0 to LARGEST", and "Returns a root, by ROUND." */
    private static void rootOf0AndOfLargestByEachRound() {
        for (int round = 0; round <= 2; round++) {
            RootRows rows = by(round, 3);
            CHECK.due("root(0, 2) by " + round, rows.root(0, 2), 0);
            CHECK.due("root(0, 3) by " + round, rows.root(0, 3), 0);
            CHECK.due("root(1, 2) by " + round, rows.root(1, 2), 1);
            CHECK.due("root(1, 3) by " + round, rows.root(1, 3), 1);
            CHECK.due("root(LARGEST, 2) by " + round, rows.root(LARGEST, 2), 1_000_000);
            CHECK.due("root(LARGEST, 3) by " + round, rows.root(LARGEST, 3), 10_000);
            CHECK.due("root(LARGEST - 1, 2) by " + round, rows.root(LARGEST - 1, 2), round == 0 ? 999_999 : 1_000_000);
            CHECK.due("root(LARGEST - 1, 3) by " + round, rows.root(LARGEST - 1, 3), round == 0 ? 9999 : 10_000);
        }
    }

    /** Promise 15, "`kind`: 2 or 3". */
    private static void rootTakesTheKinds2And3() {
        RootRows rows = new RootRows();
        CHECK.due("root(64, 2)", rows.root(64, 2), 8);
        CHECK.due("root(64, 3)", rows.root(64, 3), 4);
    }

    /** Promise 15, "BAD_VALUE if an argument is out of range", of n. */
    private static void rootRefusesAnNOutOfRange() {
        for (long n : Check.outsideLong(0, LARGEST)) {
            for (int kind : KINDS) {
                CHECK.refused("root(" + n + ", " + kind + ")", rows -> rows.root(n, kind), -2);
            }
        }
    }

    /** Promise 15, "BAD_VALUE if an argument is out of range", of the kind. */
    private static void rootRefusesAKindOutOfRange() {
        for (int kind : Check.outside(2, 3)) {
            CHECK.refused("root(9, " + kind + ")", rows -> rows.root(9, kind), -2);
            CHECK.refused("root(0, " + kind + ")", rows -> rows.root(0, kind), -2);
            CHECK.refused("root(-1, " + kind + ")", rows -> rows.root(-1, kind), -2);
        }
    }

    // ---- promise 16: remainder

    /** Promise 16, "Returns the remainder of a root that is rounded down": of 0 and LARGEST, whatever ROUND is. */
    private static void remainderOf0AndOfLargestByEachRound() {
        for (int round = 0; round <= 2; round++) {
            RootRows rows = by(round, 3);
            for (int kind : KINDS) {
                CHECK.due("remainder(0, " + kind + ") by " + round, rows.remainder(0, kind), 0);
                CHECK.due("remainder(1, " + kind + ") by " + round, rows.remainder(1, kind), 0);
                CHECK.due("remainder(LARGEST, " + kind + ") by " + round, rows.remainder(LARGEST, kind), 0);
            }
            CHECK.due("remainder(LARGEST - 1, 2) by " + round, rows.remainder(LARGEST - 1, 2), 1_999_998);
            CHECK.due("remainder(LARGEST - 1, 3) by " + round, rows.remainder(LARGEST - 1, 3), 299_970_000);
            CHECK.due("remainder(8, 2) by " + round, rows.remainder(8, 2), 4);
            CHECK.due("remainder(26, 3) by " + round, rows.remainder(26, 3), 18);
        }
    }

    /** Promise 16, "`n`: 0 to LARGEST", "BAD_VALUE if an argument is out of range". */
    private static void remainderRefusesAnNOutOfRange() {
        for (long n : Check.outsideLong(0, LARGEST)) {
            for (int kind : KINDS) {
                CHECK.refused("remainder(" + n + ", " + kind + ")", rows -> rows.remainder(n, kind), -2);
            }
        }
    }

    /** Promise 16, "`kind`: 2 or 3", "BAD_VALUE if an argument is out of range". */
    private static void remainderRefusesAKindOutOfRange() {
        for (int kind : Check.outside(2, 3)) {
            CHECK.refused("remainder(9, " + kind + ")", rows -> rows.remainder(9, kind), -2);
            CHECK.refused("remainder(0, " + kind + ")", rows -> rows.remainder(0, kind), -2);
        }
    }

    // ---- promise 17: bit

    /** Promise 17, "`step`: 0 for the first bit; -1 for how many bits there are", whatever is asked by `what`. */
    private static void bitCountsTheBitsByStepMinus1() {
        RootRows rows = new RootRows();
        for (int what = 0; what <= 3; what++) {
            CHECK.due("bit(0, 2, -1, " + what + ")", rows.bit(0, 2, -1, what), 0);
            CHECK.due("bit(0, 3, -1, " + what + ")", rows.bit(0, 3, -1, what), 0);
            CHECK.due("bit(1, 2, -1, " + what + ")", rows.bit(1, 2, -1, what), 1);
            CHECK.due("bit(3, 2, -1, " + what + ")", rows.bit(3, 2, -1, what), 1);
            CHECK.due("bit(4, 2, -1, " + what + ")", rows.bit(4, 2, -1, what), 2);
            CHECK.due("bit(7, 3, -1, " + what + ")", rows.bit(7, 3, -1, what), 1);
            CHECK.due("bit(8, 3, -1, " + what + ")", rows.bit(8, 3, -1, what), 2);
            CHECK.due("bit(LARGEST, 2, -1, " + what + ")", rows.bit(LARGEST, 2, -1, what), 20);
            CHECK.due("bit(LARGEST, 3, -1, " + what + ")", rows.bit(LARGEST, 3, -1, what), 14);
        }
    }

    /** Promise 17, "0 the bit, 1 whether it is taken (1 or 0)": the first and the last one. */
    private static void bitTellsTheFirstAndTheLastBit() {
        RootRows rows = new RootRows();
        CHECK.due("bit(LARGEST, 2, 0, 0)", rows.bit(LARGEST, 2, 0, 0), 524_288);
        CHECK.due("bit(LARGEST, 2, 0, 1)", rows.bit(LARGEST, 2, 0, 1), 1);
        CHECK.due("bit(LARGEST, 2, 19, 0)", rows.bit(LARGEST, 2, 19, 0), 1);
        CHECK.due("bit(LARGEST, 2, 19, 1)", rows.bit(LARGEST, 2, 19, 1), 0);
        CHECK.due("bit(LARGEST - 1, 2, 19, 1)", rows.bit(LARGEST - 1, 2, 19, 1), 1);
        CHECK.due("bit(LARGEST, 3, 13, 0)", rows.bit(LARGEST, 3, 13, 0), 1);
        CHECK.due("bit(LARGEST, 3, 13, 1)", rows.bit(LARGEST, 3, 13, 1), 0);
        CHECK.due("bit(LARGEST - 1, 3, 13, 1)", rows.bit(LARGEST - 1, 3, 13, 1), 1);
        CHECK.due("bit(1, 3, 0, 0)", rows.bit(1, 3, 0, 0), 1);
        CHECK.due("bit(1, 3, 0, 1)", rows.bit(1, 3, 0, 1), 1);
    }

    /** Promise 17, "2 the root so far, with this bit if it is taken": taken, not taken, and behind the last one. */
    private static void bitTellsTheRootSoFar() {
        RootRows rows = new RootRows();
        CHECK.due("bit(35, 2, 0, 2)", rows.bit(35, 2, 0, 2), 4);
        CHECK.due("bit(35, 2, 1, 2)", rows.bit(35, 2, 1, 2), 4);
        CHECK.due("bit(35, 2, 2, 2)", rows.bit(35, 2, 2, 2), 5);
        CHECK.due("bit(36, 2, 1, 2)", rows.bit(36, 2, 1, 2), 6);
        CHECK.due("bit(36, 2, 2, 2)", rows.bit(36, 2, 2, 2), 6);
        CHECK.due("bit(LARGEST, 2, 19, 2)", rows.bit(LARGEST, 2, 19, 2), 1_000_000);
        CHECK.due("bit(LARGEST - 1, 2, 19, 2)", rows.bit(LARGEST - 1, 2, 19, 2), 999_999);
        CHECK.due("bit(LARGEST, 3, 13, 2)", rows.bit(LARGEST, 3, 13, 2), 10_000);
        CHECK.due("bit(LARGEST - 1, 3, 13, 2)", rows.bit(LARGEST - 1, 3, 13, 2), 9999);
        RootRows up = by(2, 3);
        CHECK.due("bit(35, 2, 2, 2) by ROUND 2", up.bit(35, 2, 2, 2), 5);
    }

    /** Promise 17, "3 n less the power of that": 0 at the power, and at the first bit of LARGEST. */
    private static void bitTellsNLessThePower() {
        RootRows rows = new RootRows();
        CHECK.due("bit(36, 2, 0, 3)", rows.bit(36, 2, 0, 3), 20);
        CHECK.due("bit(36, 2, 1, 3)", rows.bit(36, 2, 1, 3), 0);
        CHECK.due("bit(36, 2, 2, 3)", rows.bit(36, 2, 2, 3), 0);
        CHECK.due("bit(35, 2, 2, 3)", rows.bit(35, 2, 2, 3), 10);
        CHECK.due("bit(26, 3, 1, 3)", rows.bit(26, 3, 1, 3), 18);
        CHECK.due("bit(27, 3, 1, 3)", rows.bit(27, 3, 1, 3), 0);
        CHECK.due("bit(LARGEST, 2, 0, 3)", rows.bit(LARGEST, 2, 0, 3), 725_122_093_056L);
        CHECK.due("bit(LARGEST, 3, 0, 3)", rows.bit(LARGEST, 3, 0, 3), 450_244_186_112L);
        CHECK.due("bit(LARGEST, 2, 19, 3)", rows.bit(LARGEST, 2, 19, 3), 0);
        CHECK.due("bit(LARGEST, 3, 13, 3)", rows.bit(LARGEST, 3, 13, 3), 0);
    }

    /** Promise 17, "BAD_VALUE if n ... is out of range". */
    private static void bitRefusesAnNOutOfRange() {
        for (long n : Check.outsideLong(0, LARGEST)) {
            for (int kind : KINDS) {
                CHECK.refused("bit(" + n + ", " + kind + ", 0, 0)", rows -> rows.bit(n, kind, 0, 0), -2);
                CHECK.refused("bit(" + n + ", " + kind + ", -1, 3)", rows -> rows.bit(n, kind, -1, 3), -2);
            }
        }
    }

    /** Promise 17, "BAD_VALUE if ... kind ... is out of range". */
    private static void bitRefusesAKindOutOfRange() {
        for (int kind : Check.outside(2, 3)) {
            CHECK.refused("bit(9, " + kind + ", 0, 0)", rows -> rows.bit(9, kind, 0, 0), -2);
            CHECK.refused("bit(9, " + kind + ", -1, 0)", rows -> rows.bit(9, kind, -1, 0), -2);
        }
    }

    /** Promise 17, "BAD_VALUE if ... what is out of range", also for how many bits there are. */
    private static void bitRefusesAWhatOutOfRange() {
        for (int what : Check.outside(0, 3)) {
            CHECK.refused("bit(9, 2, 0, " + what + ")", rows -> rows.bit(9, 2, 0, what), -2);
            CHECK.refused("bit(9, 3, 0, " + what + ")", rows -> rows.bit(9, 3, 0, what), -2);
            CHECK.refused("bit(9, 2, -1, " + what + ")", rows -> rows.bit(9, 2, -1, what), -2);
        }
    }

    /** Promise 17, "BAD_VALUE if ... step is below -1". */
    private static void bitRefusesAStepBelowMinus1() {
        for (int step : new int[] {-2, -3, Integer.MIN_VALUE, Integer.MIN_VALUE + 1}) {
            CHECK.refused("bit(9, 2, " + step + ", 0)", rows -> rows.bit(9, 2, step, 0), -2);
            CHECK.refused("bit(0, 3, " + step + ", 0)", rows -> rows.bit(0, 3, step, 0), -2);
        }
    }

    /** Promise 17, "NONE if there is no such step": just behind the last one, and the greatest int. */
    private static void bitIsNoneBehindTheLastBit() {
        RootRows rows = new RootRows();
        for (int what = 0; what <= 3; what++) {
            CHECK.due("bit(1, 2, 1, " + what + ")", rows.bit(1, 2, 1, what), -6);
            CHECK.due("bit(1, 3, 1, " + what + ")", rows.bit(1, 3, 1, what), -6);
            CHECK.due("bit(0, 2, 0, " + what + ")", rows.bit(0, 2, 0, what), -6);
            CHECK.due("bit(LARGEST, 2, 20, " + what + ")", rows.bit(LARGEST, 2, 20, what), -6);
            CHECK.due("bit(LARGEST, 3, 14, " + what + ")", rows.bit(LARGEST, 3, 14, what), -6);
            CHECK.due("bit(LARGEST, 2, greatest, " + what + ")", rows.bit(LARGEST, 2, Integer.MAX_VALUE, what), -6);
            CHECK.due("bit(LARGEST, 3, greatest, " + what + ")", rows.bit(LARGEST, 3, Integer.MAX_VALUE, what), -6);
        }
    }

    /** Promise 17 with the conventions: BAD_VALUE is named where NONE would be due otherwise. */
    private static void bitNamesABadValueAheadOfNone() {
        RootRows rows = new RootRows();
        for (int step : new int[] {0, 1, Integer.MAX_VALUE}) {
            CHECK.due("bit(0, 2, " + step + ", 4)", rows.bit(0, 2, step, 4), -2);
            CHECK.due("bit(0, 2, " + step + ", -1)", rows.bit(0, 2, step, -1), -2);
            CHECK.due("bit(0, 1, " + step + ", 0)", rows.bit(0, 1, step, 0), -2);
            CHECK.due("bit(0, 4, " + step + ", 0)", rows.bit(0, 4, step, 0), -2);
            CHECK.due("bit(-1, 2, " + step + ", 0)", rows.bit(-1, 2, step, 0), -2);
        }
    }

    // ---- promise 18: digits

    /** Promise 18, "`n`: 0 to 1000000": both ends, with the least and the most digits, by each ROUND. */
    private static void digitsOf0AndOfAMillion() {
        for (int round = 0; round <= 2; round++) {
            CHECK.due("digits(0), none, by " + round, by(round, 0).digits(0), 0);
            CHECK.due("digits(0), 6 of them, by " + round, by(round, 6).digits(0), 0);
            CHECK.due("digits(1000000), none, by " + round, by(round, 0).digits(1_000_000), 1000);
            CHECK.due("digits(1000000), 6 of them, by " + round, by(round, 6).digits(1_000_000), 1_000_000_000);
        }
    }

    /** Promise 18, "the square root of n times 10 to the power of DIGITS, by ROUND". */
    private static void digitsGoByDigitsAndByRound() {
        int[] of2 = {1, 14, 141, 1414, 14_142, 141_421, 1_414_213};
        int[] nearest = {1, 14, 141, 1414, 14_142, 141_421, 1_414_214};
        for (int digits = 0; digits <= 6; digits++) {
            CHECK.due("digits(2), " + digits + ", by 0", by(0, digits).digits(2), of2[digits]);
            CHECK.due("digits(2), " + digits + ", by 1", by(1, digits).digits(2), nearest[digits]);
            CHECK.due("digits(2), " + digits + ", by 2", by(2, digits).digits(2), of2[digits] + 1);
        }
        CHECK.due("digits(999999), 6, by 0", by(0, 6).digits(999_999), 999_999_499);
        CHECK.due("digits(999999), 6, by 1", by(1, 6).digits(999_999), 999_999_500);
        CHECK.due("digits(999999), 6, by 2", by(2, 6).digits(999_999), 999_999_500);
        CHECK.due("digits(2) of a new object", new RootRows().digits(2), 1414);
    }

    /** Promise 18, "(as the square root of n times 10 to the power of 2 * DIGITS)": the remainder decides as a root's. */
    private static void digitsAreRoundedAsARoot() {
        CHECK.due("digits(6), none, by 1: the remainder is the root", by(1, 0).digits(6), 2);
        CHECK.due("digits(7), none, by 1", by(1, 0).digits(7), 3);
        CHECK.due("digits(999999), none, by 0", by(0, 0).digits(999_999), 999);
        CHECK.due("digits(999999), none, by 1", by(1, 0).digits(999_999), 1000);
        CHECK.due("digits(999000), none, by 1: the remainder is the root", by(1, 0).digits(999_000), 999);
        CHECK.due("digits(999001), none, by 1", by(1, 0).digits(999_001), 1000);
        CHECK.due("digits(4), 6, by 2", by(2, 6).digits(4), 2_000_000);
        CHECK.due("digits(5), 6, by 2", by(2, 6).digits(5), 2_236_068);
        CHECK.due("digits(5), 6, by 0", by(0, 6).digits(5), 2_236_067);
    }

    /** Promise 18, "BAD_VALUE if n is out of range." */
    private static void digitsRefusesAnNOutOfRange() {
        for (int n : Check.outside(0, 1_000_000)) {
            CHECK.refused("digits(" + n + ")", rows -> rows.digits(n), -2);
        }
    }

    // ---- promise 19: compare

    private static void compared(int a, int b, int c, int d, int due) {
        RootRows rows = new RootRows();
        String call = a + ", " + b + " against " + c + ", " + d;
        int turned = due == 0 ? 0 : 3 - due;
        CHECK.due(call, rows.compare(a, b, c, d), due);
        CHECK.due(call + ", the first two exchanged", rows.compare(b, a, c, d), due);
        CHECK.due(call + ", the last two exchanged", rows.compare(a, b, d, c), due);
        CHECK.due(call + ", both exchanged", rows.compare(b, a, d, c), due);
        CHECK.due(call + ", turned around", rows.compare(c, d, a, b), turned);
        CHECK.due(call + ", turned around and exchanged", rows.compare(d, c, b, a), turned);
    }

    /** Promise 19, "`a`: 0 to 10000", "`b`: 0 to 10000", "`c`: 0 to 10000", "`d`: 0 to 10000": both ends at each place. */
    private static void compareTakes0And10000AtEachPlace() {
        for (int places = 0; places < 16; places++) {
            int[] numbers = new int[4];
            for (int place = 0; place < 4; place++) {
                numbers[place] = (places >> place & 1) * 10_000;
            }
            int left = numbers[0] + numbers[1];
            int right = numbers[2] + numbers[3];
            long got = new RootRows().compare(numbers[0], numbers[1], numbers[2], numbers[3]);
            CHECK.due("compare at the ends " + places, got, left == right ? 0 : left > right ? 1 : 2);
        }
    }

    /** Promise 19, "Returns 1 if the roots of a and b together are greater than those of c and d, 2 if they are less". */
    private static void compareTellsSumsThatAreCloseTogether() {
        compared(1, 0, 0, 0, 1);
        compared(10_000, 10_000, 10_000, 9999, 1);
        compared(10_000, 0, 9999, 0, 1);
        compared(10_000, 9998, 9999, 9999, 2);
        compared(10_000, 0, 2500, 2501, 2);
        compared(10_000, 0, 2500, 2499, 1);
        // These are less than 4e-14 apart, the first ones less than 5e-15: sums of doubles would not tell them.
        compared(8970, 2764, 6221, 4680, 2);
        compared(7866, 5148, 7300, 5625, 2);
        compared(5020, 1292, 3549, 2230, 2);
        compared(9675, 889, 4152, 4063, 2);
    }

    /** Promise 19, "0 if they are equal": also of roots that are no whole numbers. */
    private static void compareTellsSumsThatAreEqual() {
        compared(0, 0, 0, 0, 0);
        compared(10_000, 10_000, 10_000, 10_000, 0);
        compared(9999, 9998, 9998, 9999, 0);
        compared(2, 8, 18, 0, 0);
        compared(9998, 0, 9998, 0, 0);
        compared(2500, 2500, 10_000, 0, 0);
        compared(2499, 2499, 9996, 0, 0);
        compared(7, 9583, 1372, 4032, 0);
        compared(10_000, 1, 9801, 4, 0);
    }

    /** Promise 19, "BAD_VALUE if an argument is out of range": at each of the four places. */
    private static void compareRefusesANumberOutOfRangeAtEachPlace() {
        for (int n : Check.outside(0, 10_000)) {
            CHECK.refused("compare(" + n + ", 2, 3, 4)", rows -> rows.compare(n, 2, 3, 4), -2);
            CHECK.refused("compare(1, " + n + ", 3, 4)", rows -> rows.compare(1, n, 3, 4), -2);
            CHECK.refused("compare(1, 2, " + n + ", 4)", rows -> rows.compare(1, 2, n, 4), -2);
            CHECK.refused("compare(1, 2, 3, " + n + ")", rows -> rows.compare(1, 2, 3, n), -2);
            CHECK.refused("compare of four times " + n, rows -> rows.compare(n, n, n, n), -2);
        }
    }
}
