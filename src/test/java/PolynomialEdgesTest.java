/** Promises 23 to 25 at the edges that the document names, on both sides of each. */
public final class PolynomialEdgesTest {
    private static final int LEAST = Integer.MIN_VALUE;
    private static final int MOST = Integer.MAX_VALUE;

    /**
     * a, b, p, n, degree, the coefficients of 1 and of x, the highest one, and then all roots. Worked out over the whole
     * numbers, and only then by p: among them n that p divides, where the degree falls, and roots 0 and p - 1.
     */
    private static final int[][] ROWS = {
        {1, 1, 5, 1, 0, 1, 0, 1}, {1, 1, 5, 2, 0, 2, 0, 2}, {1, 1, 5, 3, 4, 4, 2, 3, 1, 2}, {1, 1, 5, 4, 6, 4, 4, 4},
        {1, 1, 5, 5, 10, 3, 0, 2}, {1, 1, 5, 6, 16, 2, 2, 1, 1, 2}, {1, 1, 5, 7, 24, 4, 3, 2}, {1, 1, 5, 8, 30, 3, 1, 3},
        {1, 1, 5, 9, 40, 0, 4, 4, 0, 1, 2, 3, 4}, {1, 1, 5, 10, 46, 2, 4, 4}, {1, 1, 5, 11, 60, 1, 4, 1},
        {0, 1, 5, 1, 0, 1, 0, 1}, {0, 1, 5, 2, 0, 2, 0, 2}, {0, 1, 5, 3, 4, 0, 2, 3, 0, 1}, {0, 1, 5, 4, 6, 3, 0, 4},
        {0, 1, 5, 5, 0, 4, 0, 4}, {0, 1, 5, 6, 16, 0, 2, 1, 0, 1, 2, 3}, {0, 1, 5, 7, 24, 1, 0, 2}, {0, 1, 5, 8, 30, 2, 0, 3},
        {0, 1, 5, 9, 40, 0, 1, 4, 0, 1}, {0, 1, 5, 10, 36, 3, 0, 3, 4}, {0, 1, 5, 11, 60, 4, 0, 1}, {3, 2, 5, 1, 0, 1, 0, 1},
        {3, 2, 5, 2, 0, 2, 0, 2}, {3, 2, 5, 3, 4, 1, 4, 3}, {3, 2, 5, 4, 6, 4, 4, 4}, {3, 2, 5, 5, 10, 2, 0, 1, 1, 2},
        {3, 2, 5, 6, 16, 1, 3, 1}, {3, 2, 5, 7, 24, 0, 2, 2, 0, 3, 4}, {3, 2, 5, 8, 30, 1, 3, 3}, {3, 2, 5, 9, 40, 3, 2, 4},
        {3, 2, 5, 10, 46, 4, 2, 2, 1, 2}, {3, 2, 5, 11, 60, 4, 3, 1}, {0, 5, 7, 1, 0, 1, 0, 1}, {0, 5, 7, 2, 0, 2, 0, 2},
        {0, 5, 7, 3, 4, 0, 4, 3, 0, 1, 2, 4}, {0, 5, 7, 4, 6, 5, 0, 4}, {0, 5, 7, 5, 12, 6, 0, 5},
        {0, 5, 7, 6, 16, 0, 5, 6, 0, 1, 2, 4}, {0, 5, 7, 7, 21, 1, 0, 1, 3, 5, 6}, {0, 5, 7, 8, 30, 2, 0, 1},
        {0, 5, 7, 9, 40, 0, 5, 2, 0, 1, 2, 4}, {0, 5, 7, 10, 48, 5, 0, 3}, {0, 5, 7, 11, 60, 6, 0, 4}, {1, 1, 7, 1, 0, 1, 0, 1},
        {1, 1, 7, 2, 0, 2, 0, 2}, {1, 1, 7, 3, 4, 6, 5, 3}, {1, 1, 7, 4, 6, 6, 5, 4}, {1, 1, 7, 5, 12, 0, 2, 5, 0, 2},
        {1, 1, 7, 6, 16, 4, 6, 6}, {1, 1, 7, 7, 21, 2, 0, 3}, {1, 1, 7, 8, 30, 5, 6, 1}, {1, 1, 7, 9, 40, 3, 4, 2},
        {1, 1, 7, 10, 48, 0, 4, 3, 0, 2}, {1, 1, 7, 11, 60, 1, 5, 4, 1, 3, 4, 5, 6}, {0, 1, 11, 1, 0, 1, 0, 1},
        {0, 1, 11, 2, 0, 2, 0, 2}, {0, 1, 11, 3, 4, 0, 1, 3, 0, 6}, {0, 1, 11, 4, 6, 1, 0, 4, 4, 5}, {0, 1, 11, 5, 12, 8, 0, 5},
        {0, 1, 11, 6, 16, 0, 10, 6, 0, 1, 2, 6}, {0, 1, 11, 7, 24, 9, 0, 7}, {0, 1, 11, 8, 30, 2, 0, 8, 4, 5},
        {0, 1, 11, 9, 40, 0, 4, 9, 0, 6}, {0, 1, 11, 10, 48, 3, 0, 10}, {0, 1, 11, 11, 0, 10, 0, 10}, {1, 5, 11, 1, 0, 1, 0, 1},
        {1, 5, 11, 2, 0, 2, 0, 2}, {1, 5, 11, 3, 4, 10, 5, 3}, {1, 5, 11, 4, 6, 10, 8, 4}, {1, 5, 11, 5, 12, 10, 9, 5},
        {1, 5, 11, 6, 16, 8, 0, 6}, {1, 5, 11, 7, 24, 7, 6, 7}, {1, 5, 11, 8, 30, 8, 2, 8}, {1, 5, 11, 9, 40, 8, 0, 9},
        {1, 5, 11, 10, 48, 3, 10, 10}, {1, 5, 11, 11, 55, 0, 0, 1, 0, 2, 5, 7, 10}, {-7, 10, 1999, 1, 0, 1, 0, 1},
        {-7, 10, 1999, 2, 0, 2, 0, 2}, {-7, 10, 1999, 3, 4, 1950, 120, 3, 1214}, {-7, 10, 1999, 4, 6, 171, 1120, 4},
        {-7, 10, 1999, 5, 12, 576, 40, 5}, {-7, 10, 1999, 10, 48, 116, 1467, 10},
        {-7, 10, 1999, 11, 60, 520, 1816, 11, 62, 683, 898, 914, 1458}, {-10000, 10000, 1999, 1, 0, 1, 0, 1},
        {-10000, 10000, 1999, 2, 0, 2, 0, 2}, {-10000, 10000, 1999, 3, 4, 1974, 60, 3, 1788},
        {-10000, 10000, 1999, 4, 6, 1699, 400, 4}, {-10000, 10000, 1999, 5, 12, 1602, 1543, 5},
        {-10000, 10000, 1999, 10, 48, 988, 785, 10}, {-10000, 10000, 1999, 11, 60, 1140, 510, 11}
    };

    public static void main(String[] args) {
        allRows();
        leastAndGreatestN();
        listedPrimes();
        ofRestsAlone();
        coefficientsBeyond();
        rootsBeyond();
        withoutRoots();
        latestOne();
        refusedLeavesLatest();
        tellsNoPoints();
        Due.end();
    }

    private static void allRows() {
        for (int[] row : ROWS) {
            CubicBench bench = Made.rests(row[0], row[1], row[2]);
            String name = "f" + row[3] + " of " + row[0] + ", " + row[1] + " by " + row[2];
            Due.is(row[4], "degree of " + name, () -> bench.polynomial(1, row[3]));
            Due.is(row[5], "coefficient 0 of " + name, () -> bench.coefficient(0));
            Due.is(row[6], "coefficient 1 of " + name, () -> bench.coefficient(1));
            Due.is(row[7], "highest coefficient of " + name, () -> bench.coefficient(row[4]));
            Due.is(0, "coefficient behind it of " + name, () -> bench.coefficient(row[4] + 1));
            for (int k = 8; k < row.length; k++) {
                int at = k;
                Due.is(row[k], "root " + (k - 8) + " of " + name, () -> bench.root(at - 8));
            }
            Due.is(-1, "root behind the last one of " + name, () -> bench.root(row.length - 8));
        }
    }

    /** "n is not 1 to 11" */
    private static void leastAndGreatestN() {
        CubicBench bench = Made.rests(1, 1, 101);
        int[] degrees = {0, 0, 4, 6, 12, 16, 24, 30, 40, 48, 60};
        for (int n = 1; n <= 11; n++) {
            int of = n;
            Due.is(degrees[n - 1], "degree of f" + n, () -> bench.polynomial(1, of));
        }
        for (int n : new int[] {0, -1, -11, 12, 13, LEAST, MOST}) {
            Due.argument("f" + n, () -> bench.polynomial(1, n));
        }
        Due.is(60, "f11 again, first of all of a new object", () -> Made.rests(1, 1, 101).polynomial(1, 11));
    }

    /** "also p is above 2,000" */
    private static void listedPrimes() {
        CubicBench bench = Made.rests(1, 1, 1999);
        bench.rest(0, 2003);
        bench.rest(0, 1000003);
        bench.rest(0, 5);
        Due.is(60, "by 1999", () -> bench.polynomial(1, 11));
        Due.is(60, "by 5", () -> bench.polynomial(4, 11));
        for (int n : new int[] {0, 1, 2, 11, 12}) {
            Due.argument("by 2003", () -> bench.polynomial(2, n));
            Due.argument("by 1,000,003", () -> bench.polynomial(3, n));
        }
    }

    private static void ofRestsAlone() {
        CubicBench bench = Made.rests(1, 1, 5);
        for (int n : new int[] {0, 1, 2, 11, 12}) {
            Due.argument("of a whole one", () -> bench.polynomial(0, n));
        }
        Due.is(0, "none worked out", () -> bench.coefficient(0));
        Due.is(-1, "no root", () -> bench.root(0));
    }

    /** "0 beyond, and ahead of any" */
    private static void coefficientsBeyond() {
        CubicBench bench = Made.rests(-7, 10, 1999);
        for (int k : new int[] {0, 1, 4, 60, -1}) {
            Due.is(0, "ahead of any: " + k, () -> bench.coefficient(k));
        }
        bench.polynomial(1, 11);
        Due.is(11, "the highest one", () -> bench.coefficient(60));
        Due.is(520, "the lowest one", () -> bench.coefficient(0));
        for (int k : new int[] {-1, -2, -60, 61, 62, 63, 64, 65, 128, LEAST, LEAST + 1, MOST}) {
            Due.is(0, "beyond: " + k, () -> bench.coefficient(k));
        }
        bench.polynomial(1, 1);
        Due.is(1, "of f1", () -> bench.coefficient(0));
        for (int k = 1; k < 64; k++) {
            int at = k;
            Due.is(0, "beyond f1: " + k, () -> bench.coefficient(at));
        }
    }

    /** "NONE without one" */
    private static void rootsBeyond() {
        CubicBench bench = Made.rests(-7, 10, 1999);
        for (int k : new int[] {0, 1, -1, LEAST, MOST}) {
            Due.is(-1, "ahead of any: " + k, () -> bench.root(k));
        }
        bench.polynomial(1, 11);
        Due.is(62, "the first one", () -> bench.root(0));
        Due.is(1458, "the last one", () -> bench.root(4));
        for (int k : new int[] {-1, -2, 5, 6, 60, 63, 64, 65, LEAST, LEAST + 1, MOST}) {
            Due.is(-1, "beyond: " + k, () -> bench.root(k));
        }
        Due.is(683, "asked out of order", () -> bench.root(1));
    }

    private static void withoutRoots() {
        CubicBench bench = Made.rests(0, 1, 5);
        for (int n : new int[] {1, 2, 5}) {
            Due.is(0, "degree 0 of f" + n, () -> bench.polynomial(1, n));
            Due.is(-1, "no root of f" + n, () -> bench.root(0));
        }
        Due.is(6, "degree of f4", () -> bench.polynomial(1, 4));
        Due.is(-1, "no root of f4", () -> bench.root(0));
    }

    /** "the latest POLYNOMIAL": of another n, of another cubic, of the first one again. */
    private static void latestOne() {
        CubicBench bench = Made.rests(1, 1, 5);
        bench.rest(0, 7);
        bench.polynomial(1, 3);
        Due.is(1, "root by 5", () -> bench.root(0));
        bench.polynomial(2, 5);
        Due.is(0, "root by 7", () -> bench.root(0));
        Due.is(2, "second root by 7", () -> bench.root(1));
        Due.is(5, "coefficient by 7", () -> bench.coefficient(12));
        bench.polynomial(1, 9);
        Due.is(4, "fifth root by 5", () -> bench.root(4));
        Due.is(-1, "sixth root by 5", () -> bench.root(5));
        bench.polynomial(1, 3);
        Due.is(2, "second root by 5", () -> bench.root(1));
        Due.is(-1, "third root by 5", () -> bench.root(2));
        Due.is(0, "nothing is left of f9", () -> bench.coefficient(40));
        bench.polynomial(2, 2);
        Due.is(2, "f2 by 7", () -> bench.coefficient(0));
        Due.is(-1, "without roots", () -> bench.root(0));
    }

    private static void refusedLeavesLatest() {
        CubicBench bench = Made.rests(1, 1, 5);
        bench.rest(0, 2003);
        bench.polynomial(1, 3);
        Due.argument("n 0", () -> bench.polynomial(1, 0));
        Due.argument("n 12", () -> bench.polynomial(1, 12));
        Due.argument("by 2003", () -> bench.polynomial(2, 4));
        Due.argument("of a whole one", () -> bench.polynomial(0, 4));
        Due.index("of none", () -> bench.polynomial(3, 4));
        int[] due = {4, 2, 1, 0, 3, 0};
        for (int k = 0; k < due.length; k++) {
            int at = k;
            Due.is(due[k], "coefficient " + k, () -> bench.coefficient(at));
        }
        Due.is(1, "root 0", () -> bench.root(0));
        Due.is(2, "root 1", () -> bench.root(1));
        Due.is(-1, "root 2", () -> bench.root(2));
    }

    private static void tellsNoPoints() {
        CubicBench bench = Made.rests(1, 1, 5);
        bench.polynomial(1, 11);
        bench.root(0);
        Due.is(0, "no points", () -> bench.counted(1));
        Due.is(2, "two cubics", () -> bench.counted(0));
        Due.is(0, "an empty page", () -> bench.counted(2));
    }
}
