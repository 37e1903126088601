/** Promises 6 to 13, 28 and 29 at the edges that the document names, on both sides of each. */
public final class PointEdgesTest {
    private static final int LEAST = Integer.MIN_VALUE;
    private static final int MOST = Integer.MAX_VALUE;
    private static final int GREATEST = 1000003;

    public static void main(String[] args) {
        farOfEachCubic();
        outermostPoints();
        tooFarOut();
        notOnTheCubic();
        outermostRests();
        sameByEveryWay();
        sameOfOtherCubics();
        sumWithFar();
        sumWithFarOfRests();
        sumOfTheSame();
        notOfOneCubic();
        mirrors();
        timesAtBothEnds();
        timesOfRestsAtBothEnds();
        timesOfGreatRestsAtBothEnds();
        timesOfLongOnes();
        Due.end();
    }

    private static void isPoint(CubicBench bench, int p, String x, String y) {
        bench.print(p, 0);
        Due.text(x, "x of " + p, bench);
        bench.print(p, 1);
        Due.text(y, "y of " + p, bench);
    }

    private static void farOfEachCubic() {
        CubicBench bench = Made.rests(0, 1, 7);
        bench.cubic(0, 2);
        for (int c = 0; c < 3; c++) {
            int of = c;
            Due.is(c, "far of " + c, () -> bench.far(of));
            Due.is(c, "far of " + c + " again", () -> bench.far(of));
            Due.is(c, "its cubic", () -> bench.told(of, 0));
            Due.is(1, "it is far", () -> bench.told(of, 1));
            Due.is(1, "its order", () -> bench.order(of));
        }
    }

    /** x, y "-1,000,000 to 1,000,000": (10,000, 1,000,000) is on the cubic with 1, -10,000. */
    private static void outermostPoints() {
        CubicBench bench = Made.whole(1, -10000);
        Due.is(0, "y 1,000,000", () -> bench.point(0, 10000, 1000000));
        Due.is(1, "y -1,000,000", () -> bench.point(0, 10000, -1000000));
        isPoint(bench, 1, "10000", "-1000000");
        Due.is(1, "its mirror", () -> bench.mirror(0));
        for (int x : new int[] {1000000, -1000000}) {
            for (int y : new int[] {1000000, -1000000, 0, 1}) {
                Due.is(-1, "not on it: " + x + ", " + y, () -> bench.point(0, x, y));
            }
        }
        Due.is(-1, "not on it: 0, 1,000,000", () -> bench.point(0, 0, 1000000));
        Due.is(-1, "not on it: 0, -1,000,000", () -> bench.point(0, 0, -1000000));
        Due.is(2, "two points", () -> bench.counted(1));
    }

    /** (10,000, 1,000,001) is on the cubic with 200, 1, but is not asked for. */
    private static void tooFarOut() {
        CubicBench bench = Made.whole(200, 1);
        Due.argument("y 1,000,001", () -> bench.point(0, 10000, 1000001));
        Due.argument("y -1,000,001", () -> bench.point(0, 10000, -1000001));
        for (int beyond : new int[] {1000001, -1000001, LEAST, LEAST + 1, MOST}) {
            for (int other : new int[] {0, 1, 1000000, -1000000}) {
                Due.argument("x " + beyond, () -> bench.point(0, beyond, other));
                Due.argument("y " + beyond, () -> bench.point(0, other, beyond));
            }
            Due.argument("both " + beyond, () -> bench.point(0, beyond, beyond));
        }
        Due.is(0, "none told", () -> bench.counted(1));
    }

    /** "-1: it is not on the CUBIC", one beside each way. */
    private static void notOnTheCubic() {
        CubicBench bench = Made.rests(0, 1, 7);
        int[][] beside = {{2, 2}, {2, 4}, {1, 3}, {3, 3}, {2, 0}, {-1, 1}, {-1, -1}, {-2, 3}, {9, 3}};
        for (int[] row : beside) {
            Due.is(-1, "beside: " + row[0] + ", " + row[1], () -> bench.point(0, row[0], row[1]));
        }
        Due.is(-1, "9, 3 leaves 2, 3 by 7, but is not on the whole one", () -> bench.point(0, 9, 3));
        Due.is(-1, "2, 2 by 7", () -> bench.point(1, 2, 2));
        Due.is(-1, "6, 6 by 7", () -> bench.point(1, 6, 6));
        Due.is(0, "2, 3 by 7", () -> bench.point(1, 2, 3));
        Due.is(1, "2, 3", () -> bench.point(0, 2, 3));
    }

    /** "of RESTS not 0 to p - 1": by 1,000,003 more than a million is allowed. */
    private static void outermostRests() {
        CubicBench bench = Made.rests(0, 1, 5);
        Due.is(0, "4, 0 by 5", () -> bench.point(1, 4, 0));
        Due.is(1, "0, 4 by 5", () -> bench.point(1, 0, 4));
        Due.is(2, "0, 1 by 5", () -> bench.point(1, 0, 1));
        Due.is(-1, "0, 0 by 5", () -> bench.point(1, 0, 0));
        Due.is(-1, "4, 4 by 5", () -> bench.point(1, 4, 4));
        for (int beyond : new int[] {-1, 5, 6, LEAST, MOST}) {
            Due.argument("x by 5 " + beyond, () -> bench.point(1, beyond, 0));
            Due.argument("y by 5 " + beyond, () -> bench.point(1, 0, beyond));
        }
        bench.rest(0, GREATEST);
        Due.is(3, "greatest x", () -> bench.point(2, GREATEST - 1, 0));
        Due.is(4, "greatest y", () -> bench.point(2, 0, GREATEST - 1));
        Due.is(-1, "both greatest", () -> bench.point(2, GREATEST - 1, GREATEST - 1));
        Due.is(-1, "1,000,001", () -> bench.point(2, 1000001, 0));
        for (int beyond : new int[] {-1, GREATEST, GREATEST + 1, LEAST, MOST}) {
            Due.argument("x by the greatest " + beyond, () -> bench.point(2, beyond, 0));
            Due.argument("y by the greatest " + beyond, () -> bench.point(2, 0, beyond));
        }
    }

    /** "two that are the same, of one CUBIC, are one" */
    private static void sameByEveryWay() {
        CubicBench bench = Made.whole(0, 1);
        int p = bench.point(0, 2, 3);
        int twice = bench.point(0, 0, 1);
        int minus = bench.point(0, 2, -3);
        int far = bench.far(0);
        Due.is(twice, "add", () -> bench.add(p, p));
        Due.is(twice, "times", () -> bench.times(p, 2));
        Due.is(twice, "times below 0", () -> bench.times(minus, -2));
        Due.is(minus, "mirror", () -> bench.mirror(p));
        Due.is(minus, "times -1", () -> bench.times(p, -1));
        Due.is(far, "add to far", () -> bench.add(p, minus));
        Due.is(far, "times 0", () -> bench.times(p, 0));
        Due.is(far, "times 6", () -> bench.times(p, 6));
        Due.is(far, "backAt 0", () -> bench.backAt(0, 0));
        Due.is(minus, "backAt 4", () -> bench.backAt(0, 4));
        Due.is(p, "backAt 5", () -> bench.backAt(0, 5));
        Due.is(4, "four points", () -> bench.counted(1));
        bench.rest(0, 5);
        int rest = bench.point(1, 4, 0);
        int restFar = bench.far(1);
        Due.is(rest, "list", () -> bench.list(1, 5));
        Due.is(restFar, "list 0", () -> bench.list(1, 0));
        Due.is(bench.list(1, 3), "first MAKER", () -> bench.group(1, 2));
        Due.is(restFar, "second MAKER", () -> bench.group(1, 3));
        Due.is(rest, "times of rests", () -> bench.times(rest, MOST));
        Due.is(restFar, "add of rests", () -> bench.add(rest, rest));
        Due.is(7, "seven points", () -> bench.counted(1));
    }

    private static void sameOfOtherCubics() {
        CubicBench bench = Made.rests(0, 1, 5);
        bench.cubic(1, 1);
        bench.rest(0, 7);
        for (int c = 0; c < 4; c++) {
            int of = c;
            Due.is(c, "0, 1 of " + c, () -> bench.point(of, 0, 1));
            Due.is(c, "0, 1 of " + c + " again", () -> bench.point(of, 0, 1));
            Due.is(c, "cubic", () -> bench.told(of, 0));
        }
        for (int c = 0; c < 4; c++) {
            int of = c;
            Due.is(4 + c, "far of " + c, () -> bench.far(of));
        }
        Due.is(8, "eight points", () -> bench.counted(1));
    }

    /** "FAR and P: P. P and its MIRROR (x, -y): FAR." */
    private static void sumWithFar() {
        CubicBench bench = Made.whole(0, -2);
        int p = bench.point(0, 3, 5);
        int minus = bench.point(0, 3, -5);
        int far = bench.far(0);
        int twice = bench.times(p, 2);
        int minusTwice = bench.times(p, -2);
        Due.is(p, "far and p", () -> bench.add(far, p));
        Due.is(p, "p and far", () -> bench.add(p, far));
        Due.is(twice, "far and a fraction", () -> bench.add(far, twice));
        Due.is(far, "far and far", () -> bench.add(far, far));
        Due.is(far, "p and its mirror", () -> bench.add(p, minus));
        Due.is(far, "mirror and p", () -> bench.add(minus, p));
        Due.is(far, "a fraction and its mirror", () -> bench.add(twice, minusTwice));
        Due.is(p, "twice and the mirror", () -> bench.add(twice, minus));
        Due.is(minus, "less twice and once", () -> bench.add(minusTwice, p));
        Due.is(5, "no more points", () -> bench.counted(1));
    }

    private static void sumWithFarOfRests() {
        CubicBench bench = Made.rests(0, 1, 5);
        int far = bench.list(1, 0);
        for (int k = 0; k < 6; k++) {
            int p = bench.list(1, k);
            int minus = bench.mirror(p);
            Due.is(p, "far and " + k, () -> bench.add(far, p));
            Due.is(p, k + " and far", () -> bench.add(p, far));
            Due.is(far, k + " and its mirror", () -> bench.add(p, minus));
            Due.is(far, "mirror and " + k, () -> bench.add(minus, p));
        }
        Due.is(6, "six points", () -> bench.counted(1));
    }

    /** Of the same point: with y 0 its mirror is itself; twice one of ORDER 3 is its mirror; of ORDER 4 has y 0. */
    private static void sumOfTheSame() {
        CubicBench bench = Made.whole(0, 1);
        int two = bench.point(0, -1, 0);
        int three = bench.point(0, 0, 1);
        Due.is(bench.far(0), "order 2", () -> bench.add(two, two));
        Due.is(bench.point(0, 0, -1), "order 3", () -> bench.add(three, three));
        int six = bench.point(0, 2, 3);
        Due.is(two, "order 6 and 3", () -> bench.add(six, three));
        Due.is(two, "order 3 and 6", () -> bench.add(three, six));
        Due.is(two, "both mirrored", () -> bench.add(bench.mirror(six), bench.mirror(three)));
        bench.cubic(4, 0);
        int four = bench.point(1, 2, 4);
        Due.is(bench.point(1, 0, 0), "order 4", () -> bench.add(four, four));
        Due.is(bench.point(1, 0, 0), "order 4, mirrored", () -> bench.add(bench.mirror(four), bench.mirror(four)));
        bench.rest(0, 7);
        int restTwo = bench.point(2, 3, 0);
        int restThree = bench.point(2, 0, 6);
        Due.is(bench.far(2), "order 2 by 7", () -> bench.add(restTwo, restTwo));
        Due.is(bench.point(2, 0, 1), "order 3 by 7", () -> bench.add(restThree, restThree));
        Due.is(bench.point(2, 5, 0), "two of order 2 by 7", () -> bench.add(restTwo, bench.point(2, 6, 0)));
    }

    /** "-1: they are not of one CUBIC" */
    private static void notOfOneCubic() {
        CubicBench bench = Made.rests(0, 1, 5);
        bench.cubic(1, 1);
        for (int c = 0; c < 3; c++) {
            bench.point(c, 0, 1);
            bench.far(c);
        }
        for (int p = 0; p < 6; p++) {
            for (int q = 0; q < 6; q++) {
                int one = p;
                int other = q;
                if (p / 2 != q / 2) {
                    Due.is(-1, "add " + p + ", " + q, () -> bench.add(one, other));
                }
            }
        }
        Due.is(6, "no more points", () -> bench.counted(1));
    }

    /** "MIRROR (of FAR FAR)" */
    private static void mirrors() {
        CubicBench bench = Made.whole(-11, 15);
        Due.is(0, "far", () -> bench.mirror(bench.far(0)));
        int p = bench.point(0, 2, 1);
        int longest = bench.times(p, 14);
        int minus = bench.mirror(longest);
        Due.is(3, "a mirror of 100 digits is not spent", () -> minus);
        Due.is(longest, "nor is its mirror", () -> bench.mirror(minus));
        Due.is(0, "both together", () -> bench.add(longest, minus));
        CubicBench rests = Made.rests(0, 1, GREATEST);
        int one = rests.point(1, 0, 1);
        Due.is(1, "y is p - 1", () -> rests.mirror(one));
        isPoint(rests, 1, "0", "1000002");
        Due.is(0, "y is 1", () -> rests.mirror(1));
        int flat = rests.point(1, GREATEST - 1, 0);
        Due.is(flat, "y is 0", () -> rests.mirror(flat));
        int far = rests.far(1);
        Due.is(far, "far", () -> rests.mirror(far));
    }

    /** "0: FAR; below 0: of its MIRROR"; "of a WHOLE one n is not -20 to 20" */
    private static void timesAtBothEnds() {
        CubicBench bench = Made.whole(0, 1);
        int p = bench.point(0, 2, 3);
        int[] multiples = new int[6];
        for (int n = 0; n < 6; n++) {
            multiples[n] = n == 0 ? bench.far(0) : bench.times(p, n);
        }
        for (int n = -20; n <= 20; n++) {
            int often = n;
            Due.is(multiples[Math.floorMod(n, 6)], "times " + n, () -> bench.times(p, often));
            Due.is(multiples[0], "times of far " + n, () -> bench.times(multiples[0], often));
        }
        for (int n : new int[] {21, -21, 22, 1000, LEAST, LEAST + 1, MOST}) {
            Due.argument("times " + n, () -> bench.times(p, n));
            Due.argument("times of far " + n, () -> bench.times(multiples[0], n));
            Due.argument("times of order 2 " + n, () -> bench.times(multiples[3], n));
        }
        Due.is(6, "six points", () -> bench.counted(1));
        int q = bench.point(bench.cubic(0, -2), 3, 5);
        Due.is(-2, "20 times, spent", () -> bench.times(q, 20));
        Due.argument("21 times, not looked at", () -> bench.times(q, 21));
        Due.is(q, "once", () -> bench.times(q, 1));
        Due.is(7, "less once", () -> bench.times(q, -1));
    }

    /** Of RESTS n is any int, -21 and 21 too. */
    private static void timesOfRestsAtBothEnds() {
        int[] ends = {LEAST, LEAST + 1, LEAST + 2, MOST, MOST - 1, -21, 21, -1000001, 1000001, 0, 1, -1, 65536, -65536};
        for (int[] row : new int[][] {{1, 1, 5}, {0, 1, 7}, {0, 2, 7}, {3, 2, 5}}) {
            CubicBench bench = Made.rests(row[0], row[1], row[2]);
            int all = bench.count(1);
            for (int k = 0; k < all; k++) {
                int p = bench.list(1, k);
                int[] multiples = new int[bench.order(p)];
                multiples[0] = bench.far(1);
                for (int i = 1; i < multiples.length; i++) {
                    multiples[i] = bench.add(multiples[i - 1], p);
                }
                for (int n : ends) {
                    Due.is(multiples[Math.floorMod(n, multiples.length)], n + " times " + k + " by " + row[2], () -> bench.times(p, n));
                }
            }
        }
    }

    /** ORDER tells how often n comes round. */
    private static void timesOfGreatRestsAtBothEnds() {
        CubicBench bench = Made.rests(1, 1, GREATEST);
        int p = bench.point(1, 0, 1);
        int far = bench.far(1);
        int order = bench.order(p);
        for (int n : new int[] {LEAST, LEAST + 1, MOST, MOST - 1, 1000000000, -1000000000, order, -order, order + 1}) {
            int left = Math.floorMod(n, order);
            int due = bench.times(p, left);
            Due.is(due, n + " times", () -> bench.times(p, n));
            Due.is(far, n + " times far", () -> bench.times(far, n));
            Due.is(bench.times(p, left - order), n + " times, less the order", () -> due);
        }
        int least = bench.times(p, LEAST);
        int most = bench.times(p, MOST);
        Due.is(bench.mirror(p), "both ends together are -1 times", () -> bench.add(least, most));
        Due.is(least, "the least end is -1 times and the mirror of the greatest", () -> bench.add(bench.mirror(most), bench.mirror(p)));
    }

    /** A long point's TIMES -1, 0 and 1 need no SUM. */
    private static void timesOfLongOnes() {
        CubicBench bench = Made.whole(-11, 15);
        int longest = bench.times(bench.point(0, 2, 1), 14);
        Due.is(longest, "once", () -> bench.times(longest, 1));
        Due.is(bench.mirror(longest), "less once", () -> bench.times(longest, -1));
        Due.is(bench.far(0), "none", () -> bench.times(longest, 0));
        for (int n : new int[] {2, 3, 20, -2, -3, -20}) {
            Due.is(-2, n + " times", () -> bench.times(longest, n));
        }
        Due.argument("21 times", () -> bench.times(longest, 21));
    }
}
