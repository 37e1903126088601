/** Promises 18 to 22 at the edges that the document names, on both sides of each. */
public final class RestEdgesTest {
    private static final int LEAST = Integer.MIN_VALUE;
    private static final int MOST = Integer.MAX_VALUE;
    private static final int GREATEST = 1000003;

    public static void main(String[] args) {
        fewestAndMostPoints();
        countAboutTheListedPrimes();
        countByTheGreatest();
        overWhich();
        overByTheGreatest();
        listedPrimes();
        placesOfList();
        listByXThenByY();
        groupWhat();
        groupOfOneMaker();
        groupOfTwoMakers();
        groupByTheGreatestListed();
        groupsOfOneObject();
        leastAndGreatestN();
        multiplesOfP();
        timesThatAreNotFar();
        notOfOneCubic();
        pairOfFarAndOfTheSame();
        farOrTheSameWithoutShift();
        pairWithoutShift();
        pairsThatAreLess();
        Due.end();
    }

    private static void countOf(int want, int a, int b, int p) {
        CubicBench bench = Made.rests(a, b, p);
        Due.is(want, "count of " + a + ", " + b + " by " + p, () -> bench.count(1));
        Due.is(0, "count tells no points", () -> bench.counted(1));
    }

    /** For the least primes: a cubic for each N that there is. */
    private static void fewestAndMostPoints() {
        int[][] byFive = {{2, 2, 0}, {3, 4, 2}, {4, 1, 0}, {5, 3, 2}, {6, 0, 1}, {7, 2, 1}, {8, 4, 0}, {9, 1, 1}, {10, 3, 0}};
        for (int[] row : byFive) {
            countOf(row[0], row[1], row[2], 5);
        }
        int[][] bySeven = {{3, 0, 4}, {4, 0, 6}, {5, 1, 1}, {6, 1, 3}, {7, 0, 5}, {8, 1, 0}, {9, 0, 2}, {10, 1, 4}, {11, 1, 6}, {12, 0, 1},
            {13, 0, 3}};
        for (int[] row : bySeven) {
            countOf(row[0], row[1], row[2], 7);
        }
        int[][] byThirteen = {{7, 0, 6}, {8, 2, 1}, {9, 0, 3}, {20, 1, 0}, {21, 0, 4}};
        for (int[] row : byThirteen) {
            countOf(row[0], row[1], row[2], 13);
        }
    }

    private static int plainCount(long a, long b, long p) {
        byte[] roots = new byte[(int) p];
        for (long y = 0; y < p; y++) {
            roots[(int) (y * y % p)]++;
        }
        int all = 1;
        for (long x = 0; x < p; x++) {
            all += roots[(int) Math.floorMod(x * x % p * x + a * x + b, p)];
        }
        return all;
    }

    private static void countAboutTheListedPrimes() {
        for (int p : new int[] {1987, 1993, 1997, 1999, 2003, 2011, 2017}) {
            for (int[] row : new int[][] {{0, 1}, {1, 0}, {-1, 0}, {1, 1}, {-3, 1}, {10000, -10000}}) {
                countOf(plainCount(row[0], row[1], p), row[0], row[1], p);
            }
        }
    }

    private static void countByTheGreatest() {
        for (int p : new int[] {999979, 999983, GREATEST}) {
            for (int[] row : new int[][] {{0, 1}, {1, 0}, {-1, 0}, {-10000, 10000}, {0, -10000}, {4, 0}}) {
                countOf(plainCount(row[0], row[1], p), row[0], row[1], p);
            }
        }
    }

    /** "IllegalArgumentException: also k is not 1 to 3." */
    private static void overWhich() {
        CubicBench bench = Made.rests(2, 0, 5);
        Due.is(2, "over 1", () -> bench.over(1, 1));
        Due.is(20, "over 2: t is 4, u(2) is 6", () -> bench.over(1, 2));
        Due.is(122, "over 3: u(3) is 4", () -> bench.over(1, 3));
        for (int k : new int[] {0, -1, 4, 5, LEAST, MOST}) {
            Due.argument("over " + k, () -> bench.over(1, k));
            Due.argument("over of a whole one " + k, () -> bench.over(0, k));
        }
        for (int k = 1; k <= 3; k++) {
            int power = k;
            Due.argument("over of a whole one " + k, () -> bench.over(0, power));
        }
    }

    private static void overByTheGreatest() {
        for (int[] row : new int[][] {{0, 1}, {-10000, 10000}, {4, 0}}) {
            CubicBench bench = Made.rests(row[0], row[1], GREATEST);
            long p = GREATEST;
            long n = plainCount(row[0], row[1], GREATEST);
            long t = p + 1 - n;
            Due.is(n, "over 1", () -> bench.over(1, 1));
            Due.is(p * p + 1 - (t * t - 2 * p), "over 2", () -> bench.over(1, 2));
            Due.is(p * p * p + 1 - (t * t * t - 3 * p * t), "over 3", () -> bench.over(1, 3));
        }
    }

    /** "p up to 2,000"; "IllegalArgumentException: also p is above 2,000 (so below)" */
    private static void listedPrimes() {
        CubicBench bench = Made.rests(0, 1, 1999);
        bench.rest(0, 2003);
        bench.rest(0, GREATEST);
        int one = bench.point(1, 1998, 0);
        Due.is(1, "list by 1999", () -> bench.list(1, 0));
        Due.is(plainCount(0, 1, 1999), "group by 1999", () -> bench.group(1, 0) * bench.group(1, 1));
        Due.is(1, "pair by 1999", () -> bench.pair(one, one, 2));
        Due.is(4, "polynomial by 1999", () -> bench.polynomial(1, 3));
        for (int c = 2; c < 4; c++) {
            int of = c;
            int p = c == 2 ? 2003 : GREATEST;
            int two = bench.point(of, p - 1, 0);
            for (int k : new int[] {-1, 0, 1}) {
                Due.argument("list by " + p, () -> bench.list(of, k));
            }
            for (int what = 0; what < 4; what++) {
                int which = what;
                Due.argument("group by " + p, () -> bench.group(of, which));
            }
            Due.argument("pair by " + p, () -> bench.pair(two, two, 2));
            Due.argument("polynomial by " + p, () -> bench.polynomial(of, 1));
            Due.is(2, "but order by " + p, () -> bench.order(two));
        }
    }

    /** "NONE without one" */
    private static void placesOfList() {
        CubicBench bench = Made.rests(1, 1, 5);
        for (int k : new int[] {-1, -2, 9, 10, 2111, 2112, 2113, LEAST, MOST}) {
            Due.is(-1, "list " + k, () -> bench.list(1, k));
        }
        Due.is(0, "none told", () -> bench.counted(1));
        Due.is(0, "the last one", () -> bench.list(1, 8));
        Due.is(1, "the first one", () -> bench.list(1, 0));
        Due.is(1, "is far", () -> bench.told(1, 1));
        bench.cubic(-1, 0);
        bench.rest(2, 1999);
        Due.is(2, "the last one by 1999", () -> bench.list(3, 1999));
        Due.is(-1, "behind it", () -> bench.list(3, 2000));
        Due.is(0, "by 5 again", () -> bench.list(1, 8));
    }

    /** "FAR, then all by x, then by y", all of them by two primes. */
    private static void listByXThenByY() {
        for (int[] row : new int[][] {{0, 1, 7}, {-1, 0, 5}, {2, 0, 5}, {1, 1, 13}, {0, 4, 13}}) {
            CubicBench bench = Made.rests(row[0], row[1], row[2]);
            int k = 1;
            Due.is(0, "far", () -> bench.list(1, 0));
            for (int x = 0; x < row[2]; x++) {
                for (int y = 0; y < row[2]; y++) {
                    if (Math.floorMod(y * y - x * x * x - row[0] * x - row[1], row[2]) == 0) {
                        int at = k;
                        int across = x;
                        int high = y;
                        Due.is(k, "list " + k + " by " + row[2], () -> bench.list(1, at));
                        Due.is(k, "is " + x + ", " + y, () -> bench.point(1, across, high));
                        k++;
                    }
                }
            }
            int all = k;
            Due.is(-1, "behind the last one", () -> bench.list(1, all));
            Due.is(all, "N", () -> bench.count(1));
        }
    }

    /** "IllegalArgumentException: also another what." */
    private static void groupWhat() {
        CubicBench bench = Made.rests(0, 2, 7);
        for (int what : new int[] {-1, 4, 5, LEAST, MOST}) {
            Due.argument("group " + what, () -> bench.group(1, what));
            Due.argument("group of a whole one " + what, () -> bench.group(0, what));
        }
        Due.argument("group of a whole one", () -> bench.group(0, 0));
        Due.is(3, "n", () -> bench.group(1, 0));
        Due.is(3, "m", () -> bench.group(1, 1));
        Due.is(0, "none told", () -> bench.counted(1));
        Due.is(0, "the second MAKER, told first", () -> bench.group(1, 3));
        Due.is(1, "the first MAKER", () -> bench.group(1, 2));
        Due.is(0, "is 3, 1", () -> bench.point(1, 3, 1));
        Due.is(1, "is 0, 3", () -> bench.point(1, 0, 3));
    }

    /** m is 1: the one POINT of ORDER 1 is FAR, all TIMES of which are FAR. */
    private static void groupOfOneMaker() {
        int[][] rows = {{2, 0, 5, 2, 0, 0}, {4, 2, 5, 3, 3, 1}, {3, 2, 5, 5, 1, 1}, {0, 1, 5, 6, 2, 2}, {2, 1, 5, 7, 0, 1}, {1, 1, 5, 9, 0, 1}};
        for (int[] row : rows) {
            CubicBench bench = Made.rests(row[0], row[1], row[2]);
            String name = row[0] + ", " + row[1] + " by 5";
            Due.is(row[3], "n of " + name, () -> bench.group(1, 0));
            Due.is(1, "m of " + name, () -> bench.group(1, 1));
            Due.is(0, "first MAKER of " + name, () -> bench.group(1, 2));
            Due.is(0, "which is " + row[4] + ", " + row[5], () -> bench.point(1, row[4], row[5]));
            Due.is(1, "second MAKER of " + name, () -> bench.group(1, 3));
            Due.is(1, "which is far", () -> bench.told(1, 1));
        }
    }

    private static void groupOfTwoMakers() {
        int[][] rows = {{1, 0, 5, 2, 2, 0, 0, 2, 0}, {4, 0, 5, 4, 2, 2, 1, 1, 0}, {0, 6, 7, 2, 2, 1, 0, 2, 0}, {0, 2, 7, 3, 3, 0, 3, 3, 1},
            {0, 1, 7, 6, 2, 1, 3, 5, 0}, {0, 1, 31, 6, 6, 1, 8, 2, 3}, {0, 1, 61, 12, 4, 6, 20, 4, 2}};
        for (int[] row : rows) {
            CubicBench bench = Made.rests(row[0], row[1], row[2]);
            String name = row[0] + ", " + row[1] + " by " + row[2];
            Due.is(row[3], "n of " + name, () -> bench.group(1, 0));
            Due.is(row[4], "m of " + name, () -> bench.group(1, 1));
            int first = bench.group(1, 2);
            int second = bench.group(1, 3);
            Due.is(first, "first MAKER of " + name, () -> bench.point(1, row[5], row[6]));
            Due.is(second, "second MAKER of " + name, () -> bench.point(1, row[7], row[8]));
        }
    }

    /** The first MAKER has one POINT of ORDER 2 among its TIMES, so the second one is another. */
    private static void groupByTheGreatestListed() {
        CubicBench bench = Made.rests(-1, 0, 1999);
        Due.is(2000, "N", () -> bench.count(1));
        Due.is(1000, "n", () -> bench.group(1, 0));
        Due.is(2, "m", () -> bench.group(1, 1));
        int first = bench.group(1, 2);
        int second = bench.group(1, 3);
        Due.is(1000, "order of the first", () -> bench.order(first));
        Due.is(2, "order of the second", () -> bench.order(second));
        int half = bench.times(first, 500);
        Due.is(0, "the second is no TIMES of the first", () -> half == second ? 1 : 0);
        CubicBench great = Made.rests(1, 1, 1999);
        Due.is(plainCount(1, 1, 1999), "n m", () -> great.group(1, 0) * great.group(1, 1));
    }

    /** GROUP and LIST of one cubic behind those of others are what they are in a new object. */
    private static void groupsOfOneObject() {
        CubicBench bench = Made.whole(0, 1);
        int[][] rows = {{0, 1, 7}, {0, 2, 7}, {0, 6, 7}, {1, 1, 7}, {0, 1, 31}, {-1, 0, 31}, {0, 1, 61}, {-1, 0, 61}, {2, 0, 5}, {1, 0, 5}, {4, 0, 5}};
        int[] numbers = new int[rows.length];
        for (int i = 0; i < rows.length; i++) {
            numbers[i] = bench.rest(bench.cubic(rows[i][0], rows[i][1]), rows[i][2]);
        }
        for (int round = 0; round < 2; round++) {
            for (int i = 0; i < rows.length; i++) {
                CubicBench fresh = Made.rests(rows[i][0], rows[i][1], rows[i][2]);
                int c = numbers[i];
                String name = rows[i][0] + ", " + rows[i][1] + " by " + rows[i][2];
                for (int what = 0; what < 2; what++) {
                    int which = what;
                    Due.is(fresh.group(1, what), "group " + what + " of " + name, () -> bench.group(c, which));
                }
                for (int what = 2; what < 4; what++) {
                    sameSpot(fresh, fresh.group(1, what), bench, bench.group(c, what), "MAKER " + what + " of " + name);
                }
                sameSpot(fresh, fresh.list(1, 1), bench, bench.list(c, 1), "list of " + name);
            }
        }
    }

    private static void sameSpot(CubicBench fresh, int due, CubicBench bench, int got, String name) {
        for (int what = 0; what < 2; what++) {
            int which = what;
            Due.is(fresh.print(due, what), name + ": bytes", () -> bench.print(got, which));
            for (int k = 0; k < fresh.counted(2) && !(fresh.told(due, 1) == 1); k++) {
                int at = k;
                Due.is(fresh.octet(k), name + ": byte " + k, () -> bench.octet(at));
            }
        }
    }

    /** "n (2 to 1,000,000 ..)": by 97 all points but FAR of 2, 14 have ORDER 101, and 1,000,001 is 101 * 9,901. */
    private static void leastAndGreatestN() {
        CubicBench bench = Made.rests(2, 14, 97);
        int p = bench.list(1, 1);
        int q = bench.list(1, 3);
        Due.is(1, "1,000,001 times it is far", () -> bench.told(bench.times(p, 1000001), 1));
        Due.argument("by 1,000,001", () -> bench.pair(p, q, 1000001));
        Due.argument("the same by 1,000,001", () -> bench.pair(p, p, 1000001));
        Due.is(1, "the same by 999,900", () -> bench.pair(p, p, 999900));
        CubicBench other = Made.rests(-1, 0, 1999);
        int one = other.point(1, 0, 0);
        int two = other.point(1, 1, 0);
        int far = other.far(1);
        Due.is(1998, "by 2", () -> other.pair(one, two, 2));
        Due.is(1, "by 4", () -> other.pair(one, two, 4));
        Due.is(1998, "by 999,998", () -> other.pair(one, two, 999998));
        Due.is(1, "by 1,000,000", () -> other.pair(one, two, 1000000));
        Due.is(1, "by 1,000,000, of another order", () -> other.pair(other.point(1, 6, 47), one, 1000000));
        Due.is(1, "far by 1,000,000", () -> other.pair(far, one, 1000000));
        for (int n : new int[] {1, 0, -1, -2, -4, 1000001, 1000002, 1000004, LEAST, MOST}) {
            Due.argument("by " + n, () -> other.pair(one, two, n));
            Due.argument("far by " + n, () -> other.pair(far, far, n));
            Due.argument("the same by " + n, () -> other.pair(one, one, n));
        }
    }

    /** "no multiple of p": by 7 0, 5 has N 7, so 7 times each point is FAR. */
    private static void multiplesOfP() {
        CubicBench bench = Made.rests(0, 5, 7);
        int p = bench.list(1, 1);
        int q = bench.list(1, 3);
        int far = bench.far(1);
        Due.is(7, "order", () -> bench.order(p));
        for (int n : new int[] {7, 14, 21, 49, 700, 999999}) {
            Due.is(0, n + " is a multiple", () -> n % 7);
            Due.argument("by " + n, () -> bench.pair(p, q, n));
            Due.argument("the same by " + n, () -> bench.pair(p, p, n));
            Due.argument("far by " + n, () -> bench.pair(far, far, n));
        }
        for (int n : new int[] {2, 6, 8, 13, 15, 999998, 1000000}) {
            Due.is(1, "far by " + n, () -> bench.pair(far, far, n));
        }
    }

    /** "or a TIMES n isn't FAR": of the one, of the other, of both. */
    private static void timesThatAreNotFar() {
        CubicBench bench = Made.rests(0, 1, 31);
        int two = bench.point(1, 6, 0);
        int otherTwo = bench.point(1, 26, 0);
        int three = bench.point(1, 0, 1);
        int six = bench.point(1, 1, 8);
        int far = bench.far(1);
        Due.is(30, "2 and 2 by 2", () -> bench.pair(two, otherTwo, 2));
        Due.argument("2 and 3 by 2", () -> bench.pair(two, three, 2));
        Due.argument("3 and 2 by 2", () -> bench.pair(three, two, 2));
        Due.argument("2 and 3 by 3", () -> bench.pair(two, three, 3));
        Due.argument("3 and 2 by 3", () -> bench.pair(three, two, 3));
        Due.argument("2 and 3 by 5", () -> bench.pair(two, three, 5));
        Due.argument("6 and 6 by 3", () -> bench.pair(six, six, 3));
        Due.argument("far and 6 by 3", () -> bench.pair(far, six, 3));
        Due.argument("6 and far by 3", () -> bench.pair(six, far, 3));
        Due.is(1, "far and 6 by 6", () -> bench.pair(far, six, 6));
        Due.is(1, "far and 6 by 12", () -> bench.pair(far, six, 12));
    }

    /** "the POINTS are not of one CUBIC of RESTS with p up to 2,000" */
    private static void notOfOneCubic() {
        CubicBench bench = Made.rests(0, 1, 31);
        bench.rest(0, 7);
        bench.rest(0, 2003);
        int[] fars = new int[4];
        int[] twos = new int[4];
        int[] primes = {0, 31, 7, 2003};
        for (int c = 0; c < 4; c++) {
            fars[c] = bench.far(c);
            twos[c] = bench.point(c, primes[c] - 1, 0);
        }
        for (int c = 0; c < 4; c++) {
            for (int d = 0; d < 4; d++) {
                int one = c;
                int other = d;
                if (c == d && c != 0 && c != 3) {
                    Due.is(1, "far and 2 of " + c, () -> bench.pair(fars[one], twos[other], 2));
                } else {
                    Due.argument("fars of " + c + ", " + d, () -> bench.pair(fars[one], fars[other], 2));
                    Due.argument("far of " + c + " and 2 of " + d, () -> bench.pair(fars[one], twos[other], 2));
                    Due.argument("twos of " + c + ", " + d, () -> bench.pair(twos[one], twos[other], 2));
                }
            }
        }
        Due.index("none, of a whole one", () -> bench.pair(twos[0], 8, 2));
    }

    /** "1, if one is FAR, or both are the same" */
    private static void pairOfFarAndOfTheSame() {
        CubicBench bench = Made.rests(0, 1, 7);
        int far = bench.far(1);
        for (int k = 0; k < 12; k++) {
            int p = bench.list(1, k);
            Due.is(1, "far and " + k, () -> bench.pair(far, p, 6));
            Due.is(1, k + " and far", () -> bench.pair(p, far, 6));
            Due.is(1, k + " and itself", () -> bench.pair(p, p, 6));
            Due.is(1, k + " and itself by 999,996", () -> bench.pair(p, p, 999996));
        }
    }

    /** With FAR, or of the same, it is 1 even where no S would do. */
    private static void farOrTheSameWithoutShift() {
        for (int[] row : new int[][] {{2, 0, 5, 2}, {4, 2, 5, 3}, {0, 4, 7, 3}}) {
            CubicBench bench = Made.rests(row[0], row[1], row[2]);
            int far = bench.list(1, 0);
            int p = bench.list(1, 1);
            Due.is(1, "far and p where N is " + row[3], () -> bench.pair(far, p, row[3]));
            Due.is(1, "p and far where N is " + row[3], () -> bench.pair(p, far, row[3]));
            Due.is(1, "p and p where N is " + row[3], () -> bench.pair(p, p, row[3]));
            Due.is(1, "far and far where N is " + row[3], () -> bench.pair(far, far, row[3]));
        }
    }

    /** "NONE, if there is none": every S makes a function 0, or asks one at FAR. */
    private static void pairWithoutShift() {
        CubicBench few = Made.rests(1, 0, 5);
        int[] twos = {few.point(1, 0, 0), few.point(1, 2, 0), few.point(1, 3, 0)};
        for (int i = 0; i < 3; i++) {
            for (int j = 0; j < 3; j++) {
                int p = twos[i];
                int q = twos[j];
                Due.is(i == j ? 1 : -1, "by 5: " + i + ", " + j, () -> few.pair(p, q, 2));
            }
        }
        CubicBench bench = Made.rests(0, 1, 7);
        Due.is(-1, "by 7", () -> bench.pair(bench.point(1, 1, 3), bench.point(1, 2, 3), 6));
        CubicBench other = Made.rests(-1, 0, 13);
        Due.is(-1, "by 13", () -> other.pair(other.point(1, 1, 0), other.point(1, 5, 4), 1000000));
        Due.is(12, "by 13, but by 4", () -> other.pair(other.point(1, 1, 0), other.point(1, 5, 4), 4));
    }

    /** A point and its mirror are not the same, and S is far down in LIST here. */
    private static void pairsThatAreLess() {
        CubicBench bench = Made.rests(0, 1, 61);
        int four = bench.point(1, 4, 2);
        Due.is(1, "with its mirror", () -> bench.pair(four, bench.mirror(four), 4));
        Due.is(50, "5, 2", () -> bench.pair(four, bench.point(1, 5, 2), 4));
        Due.is(11, "5, 59", () -> bench.pair(four, bench.point(1, 5, 59), 4));
        Due.is(60, "5, 2 by 8", () -> bench.pair(four, bench.point(1, 5, 2), 8));
        CubicBench far = Made.rests(0, 1, 31);
        int six = far.point(1, 1, 8);
        Due.is(30, "S is the tenth of LIST", () -> far.pair(six, far.point(1, 2, 3), 999990));
        Due.is(30, "S is the eleventh of LIST", () -> far.pair(six, far.point(1, 2, 28), 999990));
        Due.is(0, "no points more than these", () -> far.counted(1) - 3);
    }
}
