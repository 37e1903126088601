/** Promises 2 to 5 at the edges that the document names, on both sides of each. */
public final class CubicEdgesTest {
    private static final int LEAST = Integer.MIN_VALUE;
    private static final int MOST = Integer.MAX_VALUE;
    private static final int GREATEST = 1000003;

    public static void main(String[] args) {
        widestNumbers();
        tooWideNumbers();
        tooWideAheadOfWorth();
        worthNought();
        worthNoughtBeside();
        sameInAll();
        leastAndGreatestPrime();
        smallNumbersByWhichThereAreRests();
        greatNumbersByWhichThereAreRests();
        productsOfPrimes();
        restsOfRests();
        worthNoughtByPrime();
        restsFromBelowNought();
        turnedAtBothEnds();
        turnedByLeastThatIsNoSquare();
        turnedIsOfRests();
        aboutWhat();
        aboutWhole();
        aboutRests();
        Due.end();
    }

    private static void isCubic(CubicBench bench, int c, int a, int b, int p) {
        Due.is(a, "a of " + c, () -> bench.about(c, 0));
        Due.is(b, "b of " + c, () -> bench.about(c, 1));
        Due.is(p, "p of " + c, () -> bench.about(c, 2));
    }

    /** "a and b -10,000 to 10,000" */
    private static void widestNumbers() {
        CubicBench bench = new CubicBench();
        int[][] widest = {{10000, 10000}, {10000, -10000}, {-10000, 10000}, {-10000, -10000}, {10000, 0}, {-10000, 0},
            {0, 10000}, {0, -10000}, {9999, 9999}, {-9999, -9999}};
        for (int k = 0; k < widest.length; k++) {
            int[] row = widest[k];
            Due.is(k, "cubic " + row[0] + ", " + row[1], () -> bench.cubic(row[0], row[1]));
            isCubic(bench, k, row[0], row[1], 0);
        }
    }

    /** "IllegalArgumentException: a, b are not -10,000 to 10,000." */
    private static void tooWideNumbers() {
        CubicBench bench = new CubicBench();
        for (int beyond : new int[] {10001, -10001, 20000, -20000, 65536, -65536, LEAST, LEAST + 1, MOST}) {
            for (int other : new int[] {0, 1, 10000, -10000}) {
                Due.argument("a " + beyond + ", b " + other, () -> bench.cubic(beyond, other));
                Due.argument("a " + other + ", b " + beyond, () -> bench.cubic(other, beyond));
            }
            Due.argument("both " + beyond, () -> bench.cubic(beyond, beyond));
        }
        Due.is(0, "none kept", () -> bench.counted(0));
    }

    /** -3 k k and 2 k k k have WORTH 0, but of k 18 b is beyond, of k 58 a is too. */
    private static void tooWideAheadOfWorth() {
        CubicBench bench = new CubicBench();
        Due.argument("k 18", () -> bench.cubic(-972, 11664));
        Due.argument("k -18", () -> bench.cubic(-972, -11664));
        Due.argument("k 58", () -> bench.cubic(-10092, 390224));
    }

    /** "-1: WORTH is 0." */
    private static void worthNought() {
        CubicBench bench = new CubicBench();
        for (int k = -17; k <= 17; k++) {
            int root = k;
            Due.is(-1, "worth 0 by k " + k, () -> bench.cubic(-3 * root * root, 2 * root * root * root));
        }
        Due.is(0, "none kept", () -> bench.counted(0));
    }

    private static void worthNoughtBeside() {
        int[][] beside = {{0, 1}, {1, 0}, {-1, 0}, {0, -1}, {3, 2}, {-3, 1}, {-3, 3}, {-2, 2}, {-4, 2}, {-867, 9825}, {-867, 9827},
            {-866, 9826}, {-868, -9826}, {867, 9826}};
        CubicBench bench = new CubicBench();
        for (int k = 0; k < beside.length; k++) {
            int[] row = beside[k];
            Due.is(k, "worth beside 0: " + row[0] + ", " + row[1], () -> bench.cubic(row[0], row[1]));
        }
    }

    /** "two that are the same in all are one (its number is told again)" */
    private static void sameInAll() {
        CubicBench bench = new CubicBench();
        Due.is(0, "1, 2", () -> bench.cubic(1, 2));
        Due.is(1, "2, 1 is another", () -> bench.cubic(2, 1));
        Due.is(2, "1, -2 is another", () -> bench.cubic(1, -2));
        Due.is(3, "-1, 2 is another", () -> bench.cubic(-1, 2));
        Due.is(4, "its rests by 5 have the same a, b, but another p", () -> bench.rest(0, 5));
        Due.is(5, "its rests by 11 too", () -> bench.rest(0, 11));
        Due.is(6, "rests of another", () -> bench.rest(1, 11));
        Due.is(0, "1, 2 again", () -> bench.cubic(1, 2));
        Due.is(3, "-1, 2 again", () -> bench.cubic(-1, 2));
        Due.is(4, "rests by 5 again", () -> bench.rest(0, 5));
        Due.is(5, "rests by 11 again", () -> bench.rest(0, 11));
        Due.is(7, "12, 13", () -> bench.cubic(12, 13));
        Due.is(5, "by 11 they are 1, 2", () -> bench.rest(7, 11));
        Due.is(8, "turned", () -> bench.turned(4));
        Due.is(8, "turned again", () -> bench.turned(4));
        isCubic(bench, 8, 4, 1, 5);
        Due.is(9, "4, 1", () -> bench.cubic(4, 1));
        Due.is(8, "its rests are the turned one", () -> bench.rest(9, 5));
        Due.is(10, "ten and no more", () -> bench.counted(0));
    }

    private static void leastAndGreatestPrime() {
        CubicBench bench = Made.whole(0, 1);
        Due.is(1, "by 5", () -> bench.rest(0, 5));
        isCubic(bench, 1, 0, 1, 5);
        Due.is(2, "by 1,000,003", () -> bench.rest(0, GREATEST));
        isCubic(bench, 2, 0, 1, GREATEST);
        Due.is(3, "by 999,983", () -> bench.rest(0, 999983));
        for (int p : new int[] {4, 3, 2, 1, 0, -1, -2, -3, -5, -7, -GREATEST, 1000000, 1000001, 1000002, 1000004, 1000005,
            1000007, 1000033, 1000037, 2147483629, LEAST, LEAST + 1, MOST}) {
            Due.argument("by " + p, () -> bench.rest(0, p));
        }
        Due.is(4, "four kept", () -> bench.counted(0));
    }

    private static boolean isPrime(int p) {
        return java.math.BigInteger.valueOf(p).isProbablePrime(40);
    }

    private static void byEach(int from, int to) {
        CubicBench bench = null;
        for (int p = from; p <= to; p++) {
            bench = bench == null || bench.counted(0) >= 40 || p % 200 == 0 ? Made.whole(0, 1) : bench;
            CubicBench now = bench;
            int by = p;
            if (p >= 5 && p <= GREATEST && isPrime(p)) {
                Due.is(now.counted(0), "by the prime " + p, () -> now.rest(0, by));
            } else {
                Due.argument("by " + p, () -> now.rest(0, by));
            }
        }
    }

    private static void smallNumbersByWhichThereAreRests() {
        byEach(-50, 2100);
    }

    private static void greatNumbersByWhichThereAreRests() {
        byEach(999900, 1000100);
    }

    /** Squares of primes, and products of two near ones: their least divisor is as great as it can be. */
    private static void productsOfPrimes() {
        CubicBench bench = Made.whole(0, 1);
        int before = 5;
        for (int p = 7; p <= 997; p++) {
            if (isPrime(p)) {
                int square = p * p;
                int product = p * before;
                Due.argument("by a square " + square, () -> bench.rest(0, square));
                Due.argument("by a product " + product, () -> bench.rest(0, product));
                before = p;
            }
        }
    }

    /** "IllegalArgumentException: it is not WHOLE" */
    private static void restsOfRests() {
        CubicBench bench = Made.rests(0, 1, 7);
        bench.turned(1);
        Due.argument("by the same", () -> bench.rest(1, 7));
        Due.argument("by another", () -> bench.rest(1, 5));
        Due.argument("by no prime", () -> bench.rest(1, 4));
        Due.argument("of a turned one", () -> bench.rest(2, 5));
        Due.is(3, "three kept", () -> bench.counted(0));
    }

    /** "-1: WORTH is 0 by p." */
    private static void worthNoughtByPrime() {
        int[][] nought = {{0, 5, 5}, {5, 5, 5}, {0, 7, 7}, {-10000, 0, 5}, {0, 10000, 5}, {2, 2, 5}, {-3, 15, 13}, {-9986, 5977, GREATEST},
            {-9741, 436, GREATEST}, {-9741, -436, GREATEST}};
        for (int[] row : nought) {
            CubicBench bench = Made.whole(row[0], row[1]);
            Due.is(-1, "worth of " + row[0] + ", " + row[1] + " by " + row[2], () -> bench.rest(0, row[2]));
            Due.is(1, "none kept", () -> bench.counted(0));
            Due.is(1, "by another prime", () -> bench.rest(0, 999983));
        }
        CubicBench beside = Made.whole(-9741, 435);
        Due.is(1, "worth beside 0 by the greatest", () -> beside.rest(0, GREATEST));
    }

    private static void restsFromBelowNought() {
        CubicBench bench = Made.whole(-1, -1);
        isCubic(bench, bench.rest(0, 5), 4, 4, 5);
        isCubic(bench, bench.rest(0, GREATEST), GREATEST - 1, GREATEST - 1, GREATEST);
        int wide = bench.cubic(-10000, 10000);
        isCubic(bench, bench.rest(wide, GREATEST), GREATEST - 10000, 10000, GREATEST);
        isCubic(bench, bench.rest(wide, 9973), 9946, 27, 9973);
        isCubic(bench, bench.rest(wide, 7), 3, 4, 7);
        int exact = bench.cubic(-7, 1);
        isCubic(bench, bench.rest(exact, 7), 0, 1, 7);
    }

    private static void turnedAtBothEnds() {
        CubicBench bench = Made.rests(3, 2, 5);
        isCubic(bench, bench.turned(1), 2, 1, 5);
        CubicBench great = Made.rests(-1, -10000, GREATEST);
        isCubic(great, great.turned(1), GREATEST - 4, GREATEST - 80000, GREATEST);
        CubicBench withoutA = Made.rests(0, 1, 7);
        isCubic(withoutA, withoutA.turned(1), 0, 6, 7);
        CubicBench withoutB = Made.rests(1, 0, 7);
        isCubic(withoutB, withoutB.turned(1), 2, 0, 7);
    }

    /** "d the least rest that is no square": primes by which it is greater than by all lesser ones. */
    private static void turnedByLeastThatIsNoSquare() {
        int[][] due = {{5, 2}, {7, 3}, {23, 5}, {71, 7}, {311, 11}, {479, 13}, {1559, 17}, {5711, 19}, {10559, 23}, {18191, 29},
            {31391, 31}, {366791, 43}, {999983, 5}, {GREATEST, 2}};
        for (int[] row : due) {
            long p = row[0];
            long d = row[1];
            CubicBench bench = Made.rests(1, 1, row[0]);
            isCubic(bench, bench.turned(1), (int) (d * d % p), (int) (d * d % p * d % p), row[0]);
        }
    }

    /** "IllegalArgumentException: it is WHOLE (so below, where RESTS are asked for)." */
    private static void turnedIsOfRests() {
        CubicBench bench = Made.rests(0, 1, 7);
        bench.point(0, -1, 0);
        Due.argument("turned", () -> bench.turned(0));
        Due.argument("count", () -> bench.count(0));
        Due.argument("over", () -> bench.over(0, 1));
        Due.argument("list", () -> bench.list(0, 0));
        Due.argument("group", () -> bench.group(0, 0));
        Due.argument("pair", () -> bench.pair(0, 0, 2));
        Due.argument("polynomial", () -> bench.polynomial(0, 1));
        Due.is(2, "none kept", () -> bench.counted(0));
        Due.is(1, "no point more", () -> bench.counted(1));
    }

    /** "IllegalArgumentException: another what." */
    private static void aboutWhat() {
        CubicBench bench = Made.rests(2, 3, 7);
        for (int c = 0; c < 2; c++) {
            int of = c;
            for (int what : new int[] {-1, 5, 6, LEAST, MOST}) {
                Due.argument("about " + c + ", " + what, () -> bench.about(of, what));
            }
            Due.is(2, "what 0 of " + c, () -> bench.about(of, 0));
            Due.is(3, "what 1 of " + c, () -> bench.about(of, 1));
        }
        Due.is(0, "what 4 of a whole one", () -> bench.about(0, 4));
        Due.is(5, "what 4 of rests: 1728 * 32 / 275", () -> bench.about(1, 4));
    }

    private static void aboutWhole() {
        int[][] rows = {{10000, 10000}, {10000, 0}, {-10000, 0}, {-10000, -10000}, {0, 10000}, {0, 1}, {-3, 1}, {-867, 9825}};
        for (int[] row : rows) {
            CubicBench bench = Made.whole(row[0], row[1]);
            long a = row[0];
            long b = row[1];
            Due.is(4 * a * a * a + 27 * b * b, "worth of " + a + ", " + b, () -> bench.about(0, 3));
            Due.is(0, "p of a whole one", () -> bench.about(0, 2));
            Due.is(0, "invariant of a whole one", () -> bench.about(0, 4));
        }
    }

    /** WORTH of RESTS is a rest too, and INVARIANT times WORTH is 1728 * 4 a a a by p. */
    private static void aboutRests() {
        int[][] rows = {{-1, -1, 5}, {-1, 0, 5}, {0, -1, 5}, {-10000, 10000, GREATEST}, {-1, -1, GREATEST}, {0, 1, GREATEST},
            {1, 0, GREATEST}, {10000, -9999, 999983}, {-3, 1, 1999}};
        for (int[] row : rows) {
            CubicBench bench = Made.rests(row[0], row[1], row[2]);
            long a = row[0];
            long b = row[1];
            long p = row[2];
            long worth = Math.floorMod(4 * a * a * a + 27 * b * b, p);
            long above = Math.floorMod(6912 * Math.floorMod(a * a * a, p), p);
            String name = a + ", " + b + " by " + p;
            Due.is(worth, "worth of " + name, () -> bench.about(1, 3));
            Due.is(above, "invariant times worth of " + name, () -> bench.about(1, 4) * worth % p);
            Due.same("true", String.valueOf(bench.about(1, 4) >= 0 && bench.about(1, 4) < p), "a rest of " + name);
        }
    }
}
