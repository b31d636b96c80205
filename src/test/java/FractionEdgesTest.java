/**
 * The boundary cases of the promises 20 to 22: continued fractions of square roots. A method holds one sentence,
 * which its comment quotes.
 */
public final class FractionEdgesTest {
    private static final Check CHECK = new Check("FractionEdgesTest");

    public static void main(String[] args) {
        CHECK.runAll(FractionEdgesTest.class);
        CHECK.end();
    }

    // ---- promise 20: period

    /** Promise 20, "`n`: 0 to 100000", and "Returns the length": the ends, the least and the greatest length. */
    private static void periodOfTheEndsAndOfTheLeastAndGreatestLength() {
        RootRows rows = new RootRows();
        CHECK.due("period(0), a square", rows.period(0), -6);
        CHECK.due("period(2), the first one", rows.period(2), 1);
        CHECK.due("period(3)", rows.period(3), 2);
        CHECK.due("period(99857), behind the last square", rows.period(99_857), 1);
        CHECK.due("period(99855), ahead of it", rows.period(99_855), 2);
        CHECK.due("period(95131), of the longest", rows.period(95_131), 750);
        CHECK.due("period(95419), of the longest", rows.period(95_419), 750);
        CHECK.due("period(99999)", rows.period(99_999), 48);
        CHECK.due("period(100000)", rows.period(100_000), 144);
    }

    /** Promise 20, "BAD_VALUE if n is out of range". */
    private static void periodRefusesAnNOutOfRange() {
        for (int n : Check.outside(0, 100_000)) {
            CHECK.refused("period(" + n + ")", rows -> rows.period(n), -2);
        }
        CHECK.refused("period(-4)", rows -> rows.period(-4), -2);
        CHECK.refused("period(100489), a square out of range", rows -> rows.period(100_489), -2);
    }

    /** Promise 20, "NONE if n is a square." Every square of the range, and no number beside one. */
    private static void periodIsNoneOfEverySquareAndOfNoOther() {
        for (int r = 0; r <= 316; r++) {
            RootRows rows = new RootRows();
            CHECK.due("period(" + r * r + ")", rows.period(r * r), -6);
            if (r > 0) {
                CHECK.due("period(" + (r * r + 1) + ")", rows.period(r * r + 1), 1);
            }
            if (r > 1) {
                CHECK.due("period(" + (r * r - 1) + ")", rows.period(r * r - 1), 2);
            }
        }
    }

    // ---- promise 21: term

    /** Promise 21, "`n`: 0 to 100000", "0 for the whole part": also of squares. */
    private static void term0IsTheWholePart() {
        RootRows rows = new RootRows();
        int[][] due = {{0, 0}, {1, 1}, {2, 1}, {3, 1}, {4, 2}, {8, 2}, {9, 3}, {99_855, 315}, {99_856, 316}, {99_857, 316},
            {99_999, 316}, {100_000, 316}};
        for (int[] row : due) {
            CHECK.due("term(" + row[0] + ", 0)", rows.term(row[0], 0), row[1]);
        }
    }

    /** Promise 21, "`term`: 0 to 500": the last one, of short periods, and of one that is longer than that. */
    private static void term500IsTheLastOne() {
        RootRows rows = new RootRows();
        CHECK.due("term(2, 500)", rows.term(2, 500), 2);
        CHECK.due("term(3, 499)", rows.term(3, 499), 1);
        CHECK.due("term(3, 500)", rows.term(3, 500), 2);
        CHECK.due("term(94, 499)", rows.term(94, 499), 3);
        CHECK.due("term(94, 500)", rows.term(94, 500), 1);
        CHECK.due("term(95419, 499)", rows.term(95_419, 499), 7);
        CHECK.due("term(95419, 500)", rows.term(95_419, 500), 1);
        CHECK.due("term(99857, 500)", rows.term(99_857, 500), 632);
        CHECK.due("term(99999, 500)", rows.term(99_999, 500), 16);
        CHECK.due("term(100000, 500)", rows.term(100_000, 500), 1);
    }

    /** Promise 21, "Returns the term": the last one of a period is twice the whole part, and the first one follows. */
    private static void termsBeginAnewBehindThePeriod() {
        RootRows rows = new RootRows();
        int[] of7 = {2, 1, 1, 1, 4, 1, 1, 1, 4, 1};
        for (int term = 0; term < of7.length; term++) {
            CHECK.due("term(7, " + term + ")", rows.term(7, term), of7[term]);
        }
        CHECK.due("term(99999, 48)", rows.term(99_999, 48), 632);
        CHECK.due("term(99999, 49)", rows.term(99_999, 49), 4);
        CHECK.due("term(99999, 1)", rows.term(99_999, 1), 4);
    }

    /** Promise 21, "BAD_VALUE if an argument is out of range", of n. */
    private static void termRefusesAnNOutOfRange() {
        for (int n : Check.outside(0, 100_000)) {
            CHECK.refused("term(" + n + ", 0)", rows -> rows.term(n, 0), -2);
            CHECK.refused("term(" + n + ", 500)", rows -> rows.term(n, 500), -2);
        }
    }

    /** Promise 21, "BAD_VALUE if an argument is out of range", of the term: also of a square. */
    private static void termRefusesATermOutOfRange() {
        for (int term : Check.outside(0, 500)) {
            CHECK.refused("term(2, " + term + ")", rows -> rows.term(2, term), -2);
            CHECK.refused("term(4, " + term + ")", rows -> rows.term(4, term), -2);
            CHECK.refused("term(0, " + term + ")", rows -> rows.term(0, term), -2);
        }
    }

    /** Promise 21, "NONE if there is no such term (n is a square, and term is not 0)." */
    private static void termIsNoneOfASquareBehindTheWholePart() {
        RootRows rows = new RootRows();
        for (int n : new int[] {0, 1, 4, 9, 99_856}) {
            CHECK.due("term(" + n + ", 1)", rows.term(n, 1), -6);
            CHECK.due("term(" + n + ", 2)", rows.term(n, 2), -6);
            CHECK.due("term(" + n + ", 500)", rows.term(n, 500), -6);
        }
        CHECK.due("term(99855, 1)", rows.term(99_855, 1), 1);
        CHECK.due("term(99857, 1)", rows.term(99_857, 1), 632);
    }

    // ---- promise 22: convergent

    /** Promise 22, "`part`: 0 for the upper number, 1 for the lower number", of the term 0: the whole part over 1. */
    private static void convergentOfTerm0IsTheWholePart() {
        RootRows rows = new RootRows();
        int[][] due = {{0, 0}, {1, 1}, {2, 1}, {4, 2}, {99_855, 315}, {99_856, 316}, {99_999, 316}, {100_000, 316}};
        for (int[] row : due) {
            CHECK.due("convergent(" + row[0] + ", 0, 0)", rows.convergent(row[0], 0, 0), row[1]);
            CHECK.due("convergent(" + row[0] + ", 0, 1)", rows.convergent(row[0], 0, 1), 1);
        }
    }

    /** Promise 22, "the fraction that the terms from 0 to a term make (the convergent)": the first ones. */
    private static void convergentsOfTheFirstTerms() {
        RootRows rows = new RootRows();
        long[][] of2 = {{1, 1}, {3, 2}, {7, 5}, {17, 12}, {41, 29}, {99, 70}};
        long[][] of7 = {{2, 1}, {3, 1}, {5, 2}, {8, 3}, {37, 14}, {45, 17}};
        for (int term = 0; term < of2.length; term++) {
            for (int part = 0; part <= 1; part++) {
                CHECK.due("convergent(2, " + term + ", " + part + ")", rows.convergent(2, term, part), of2[term][part]);
                CHECK.due("convergent(7, " + term + ", " + part + ")", rows.convergent(7, term, part), of7[term][part]);
            }
        }
    }

    /**
     * Promise 22, "NONE if ... the upper or lower number of this term ... is above LARGEST": the last term that is not,
     * and the next one. Of these, 30479 comes nearest to LARGEST from below, 97979 from above.
     */
    private static void convergentIsNoneAboveLargest() {
        long[][] last = {{2, 31, 886_731_088_897L, 627_013_566_048L}, {3, 41, 512_706_121_226L, 296_011_017_105L},
            {7, 39, 528_572_943_487L, 199_781_794_032L}, {61, 26, 579_379_572_416L, 74_181_952_749L},
            {30_479, 29, 999_987_694_942L, 5_727_885_119L}, {97_979, 16, 672_708_412_139L, 2_149_118_473L},
            {91_136, 20, 971_852_943_851L, 3_219_256_438L}, {99_857, 3, 79_770_564_737L, 252_437_232L},
            {99_999, 18, 704_009_062_075L, 2_226_283_261L}, {100_000, 20, 264_677_830_648L, 836_984_791L}};
        for (long[] row : last) {
            RootRows rows = new RootRows();
            int n = (int) row[0];
            int term = (int) row[1];
            CHECK.due("convergent(" + n + ", " + term + ", 0)", rows.convergent(n, term, 0), row[2]);
            CHECK.due("convergent(" + n + ", " + term + ", 1)", rows.convergent(n, term, 1), row[3]);
            CHECK.due("convergent(" + n + ", " + (term + 1) + ", 0)", rows.convergent(n, term + 1, 0), -6);
            CHECK.due("convergent(" + n + ", " + (term + 1) + ", 1), small, but its upper number is not",
                rows.convergent(n, term + 1, 1), -6);
        }
    }

    /** Promise 22, "NONE if ... or of one ahead of it, is above LARGEST": every term behind, up to 500. */
    private static void convergentIsNoneBehindOneAboveLargest() {
        int[][] firstNone = {{2, 32}, {3, 42}, {61, 27}, {97_979, 17}, {99_857, 4}, {100_000, 21}};
        for (int[] row : firstNone) {
            for (int part = 0; part <= 1; part++) {
                RootRows rows = new RootRows();
                for (int term = row[1]; term <= 500; term++) {
                    CHECK.due("convergent(" + row[0] + ", " + term + ", " + part + ")",
                        rows.convergent(row[0], term, part), -6);
                }
            }
        }
    }

    /** Promise 22, "NONE if there is no such term": of squares behind the whole part. */
    private static void convergentIsNoneOfASquareBehindTheWholePart() {
        RootRows rows = new RootRows();
        for (int n : new int[] {0, 1, 4, 9, 99_856}) {
            for (int part = 0; part <= 1; part++) {
                CHECK.due("convergent(" + n + ", 1, " + part + ")", rows.convergent(n, 1, part), -6);
                CHECK.due("convergent(" + n + ", 500, " + part + ")", rows.convergent(n, 500, part), -6);
            }
        }
    }

    /** Promise 22, "BAD_VALUE if an argument is out of range", of n. */
    private static void convergentRefusesAnNOutOfRange() {
        for (int n : Check.outside(0, 100_000)) {
            CHECK.refused("convergent(" + n + ", 0, 0)", rows -> rows.convergent(n, 0, 0), -2);
            CHECK.refused("convergent(" + n + ", 500, 1)", rows -> rows.convergent(n, 500, 1), -2);
        }
    }

    /** Promise 22, "BAD_VALUE if an argument is out of range", of the term: also where NONE would be due otherwise. */
    private static void convergentRefusesATermOutOfRange() {
        for (int term : Check.outside(0, 500)) {
            CHECK.refused("convergent(2, " + term + ", 0)", rows -> rows.convergent(2, term, 0), -2);
            CHECK.refused("convergent(2, " + term + ", 1)", rows -> rows.convergent(2, term, 1), -2);
            CHECK.refused("convergent(4, " + term + ", 0)", rows -> rows.convergent(4, term, 0), -2);
        }
    }

    /** Promise 22, "BAD_VALUE if an argument is out of range", of the part: also where NONE would be due otherwise. */
    private static void convergentRefusesAPartOutOfRange() {
        for (int part : Check.outside(0, 1)) {
            CHECK.refused("convergent(2, 0, " + part + ")", rows -> rows.convergent(2, 0, part), -2);
            CHECK.refused("convergent(2, 500, " + part + ")", rows -> rows.convergent(2, 500, part), -2);
            CHECK.refused("convergent(4, 1, " + part + ")", rows -> rows.convergent(4, 1, part), -2);
        }
    }
}
