/** Promises 20 to 22: continued fractions of square roots. */
public final class FractionTest {
    private static final Check CHECK = new Check("FractionTest");
    private static final int[] NO_NUMBERS = {-1, 100_001, Integer.MAX_VALUE, Integer.MIN_VALUE};
    private static final int[] NO_TERMS = {-1, 501, Integer.MAX_VALUE, Integer.MIN_VALUE};

    public static void main(String[] args) {
        periods();
        periodOfSquares();
        allPeriods();
        terms();
        farTerms();
        termsOfSquares();
        termRefuses();
        convergents();
        convergentsEnd();
        manyConvergents();
        convergentRefuses();
        CHECK.end();
    }

    private static void periods() {
        RootRows rows = new RootRows();
        int[][] due = {{2, 1}, {3, 2}, {5, 1}, {6, 2}, {7, 4}, {8, 2}, {10, 1}, {13, 5}, {14, 4}, {19, 6}, {23, 4},
            {31, 8}, {46, 12}, {61, 11}, {94, 16}, {99_855, 2}, {99_857, 1}};
        for (int[] row : due) {
            CHECK.due("P20 period(" + row[0] + ")", rows.period(row[0]), row[1]);
        }
        for (int n : NO_NUMBERS) {
            CHECK.due("P20 period(" + n + ")", rows.period(n), -2);
        }
        CHECK.due("P20 period(100000)", rows.period(100_000), new Model().period(100_000));
        CHECK.due("P20 period is no change", rows.count(2), 0);
    }

    private static void periodOfSquares() {
        RootRows rows = new RootRows();
        for (int r = 0; r <= 316; r++) {
            CHECK.due("P20 period(" + r * r + ")", rows.period(r * r), -6);
        }
    }

    private static void allPeriods() {
        Model model = new Model();
        for (int n = 0; n <= 100_000; n += n < 2000 || n > 99_500 ? 1 : 37) {
            CHECK.due("P20 period(" + n + ")", new RootRows().period(n), model.period(n));
        }
    }

    private static void terms() {
        RootRows rows = new RootRows();
        int[] of7 = {2, 1, 1, 1, 4, 1, 1, 1, 4, 1};
        int[] of61 = {7, 1, 4, 3, 1, 2, 2, 1, 3, 4, 1, 14, 1, 4, 3};
        for (int i = 0; i < of7.length; i++) {
            CHECK.due("P21 term(7, " + i + ")", rows.term(7, i), of7[i]);
        }
        for (int i = 0; i < of61.length; i++) {
            CHECK.due("P21 term(61, " + i + ")", rows.term(61, i), of61[i]);
        }
        CHECK.due("P21 term(99999, 0)", rows.term(99_999, 0), 316);
        CHECK.due("P21 term(100000, 0)", rows.term(100_000, 0), 316);
        CHECK.due("P21 term(99857, 1)", rows.term(99_857, 1), 632);
        CHECK.due("P21 term is no change", rows.count(2), 0);
    }

    private static void farTerms() {
        RootRows rows = new RootRows();
        Model model = new Model();
        CHECK.due("P21 term(2, 500)", rows.term(2, 500), 2);
        CHECK.due("P21 term(7, 500)", rows.term(7, 500), 4);
        for (int n : new int[] {3, 61, 94, 9949, 95_371, 99_991, 100_000}) {
            for (int term : new int[] {1, 2, 11, 100, 333, 498, 499, 500}) {
                CHECK.due("P21 term(" + n + ", " + term + ")", rows.term(n, term), model.term(n, term));
            }
        }
    }

    private static void termsOfSquares() {
        RootRows rows = new RootRows();
        for (int r : new int[] {0, 1, 2, 3, 10, 316}) {
            CHECK.due("P21 term(" + r * r + ", 0)", rows.term(r * r, 0), r);
            CHECK.due("P21 term(" + r * r + ", 1)", rows.term(r * r, 1), -6);
            CHECK.due("P21 term(" + r * r + ", 500)", rows.term(r * r, 500), -6);
            CHECK.due("P21 an error is named ahead of NONE", rows.term(r * r, 501), -2);
        }
    }

    private static void termRefuses() {
        RootRows rows = new RootRows();
        for (int n : NO_NUMBERS) {
            CHECK.due("P21 term(" + n + ", 0)", rows.term(n, 0), -2);
        }
        for (int term : NO_TERMS) {
            CHECK.due("P21 term(7, " + term + ")", rows.term(7, term), -2);
        }
    }

    private static void convergents() {
        RootRows rows = new RootRows();
        long[][] of2 = {{1, 1}, {3, 2}, {7, 5}, {17, 12}, {41, 29}, {99, 70}, {239, 169}};
        long[][] of7 = {{2, 1}, {3, 1}, {5, 2}, {8, 3}, {37, 14}, {45, 17}, {82, 31}, {127, 48}};
        for (int i = 0; i < of2.length; i++) {
            CHECK.due("P22 convergent(2, " + i + ", 0)", rows.convergent(2, i, 0), of2[i][0]);
            CHECK.due("P22 convergent(2, " + i + ", 1)", rows.convergent(2, i, 1), of2[i][1]);
        }
        for (int i = 0; i < of7.length; i++) {
            CHECK.due("P22 convergent(7, " + i + ", 0)", rows.convergent(7, i, 0), of7[i][0]);
            CHECK.due("P22 convergent(7, " + i + ", 1)", rows.convergent(7, i, 1), of7[i][1]);
        }
        CHECK.due("P22 convergent(61, 21, 0)", rows.convergent(61, 21, 0), 1_766_319_049L);
        CHECK.due("P22 convergent(61, 21, 1)", rows.convergent(61, 21, 1), 226_153_980L);
        for (int r : new int[] {0, 1, 3, 316}) {
            CHECK.due("P22 convergent of a square", rows.convergent(r * r, 0, 0), r);
            CHECK.due("P22 convergent of a square", rows.convergent(r * r, 0, 1), 1);
            CHECK.due("P22 no such term", rows.convergent(r * r, 1, 0), -6);
            CHECK.due("P22 no such term", rows.convergent(r * r, 500, 1), -6);
        }
        CHECK.due("P22 convergent is no change", rows.count(2), 0);
    }

    /** The lower number is NONE, too, where the upper one alone is above LARGEST. */
    private static void convergentsEnd() {
        RootRows rows = new RootRows();
        CHECK.due("P22 convergent(2, 30, 0)", rows.convergent(2, 30, 0), 367_296_043_199L);
        CHECK.due("P22 convergent(2, 31, 0)", rows.convergent(2, 31, 0), 886_731_088_897L);
        CHECK.due("P22 convergent(2, 31, 1)", rows.convergent(2, 31, 1), 627_013_566_048L);
        CHECK.due("P22 convergent(2, 32, 0)", rows.convergent(2, 32, 0), -6);
        CHECK.due("P22 convergent(2, 32, 1)", rows.convergent(2, 32, 1), -6);
        CHECK.due("P22 convergent(3, 43, 0)", rows.convergent(3, 43, 0), new Model().convergent(3, 43, 0));
        for (int term = 32; term <= 500; term++) {
            CHECK.due("P22 convergent(2, " + term + ", 0)", rows.convergent(2, term, 0), -6);
        }
        CHECK.due("P22 convergent(61, 500, 1)", rows.convergent(61, 500, 1), -6);
        CHECK.due("P22 convergent(99857, 4, 0)", rows.convergent(99_857, 4, 0), new Model().convergent(99_857, 4, 0));
        CHECK.due("P22 convergent(99857, 5, 0)", rows.convergent(99_857, 5, 0), -6);
    }

    private static void manyConvergents() {
        Model model = new Model();
        for (int n = 0; n <= 100_000; n += n < 40 ? 1 : 2503) {
            RootRows rows = new RootRows();
            for (int term = 0; term < 45; term++) {
                for (int part = 0; part < 2; part++) {
                    CHECK.due("P22 convergent(" + n + ", " + term + ", " + part + ")",
                        rows.convergent(n, term, part), model.convergent(n, term, part));
                }
            }
        }
    }

    private static void convergentRefuses() {
        RootRows rows = new RootRows();
        for (int n : NO_NUMBERS) {
            CHECK.due("P22 convergent(" + n + ", 0, 0)", rows.convergent(n, 0, 0), -2);
        }
        for (int term : NO_TERMS) {
            CHECK.due("P22 convergent(7, " + term + ", 0)", rows.convergent(7, term, 0), -2);
        }
        for (int part : new int[] {-1, 2, 3, Integer.MAX_VALUE, Integer.MIN_VALUE}) {
            CHECK.due("P22 convergent(7, 1, " + part + ")", rows.convergent(7, 1, part), -2);
            CHECK.due("P22 an error is named ahead of NONE", rows.convergent(9, 1, part), -2);
        }
    }
}
