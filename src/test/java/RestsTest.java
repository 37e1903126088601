/** Promises 18 to 22: count, over, list, group, pair. */
public final class RestsTest {
    public static void main(String[] args) {
        count();
        countOfGreatPrimes();
        over();
        list();
        group();
        groupOfAll();
        pair();
        pairOfThree();
        pairRefused();
        Due.end();
    }

    /** A cubic of rests with number 1, of a whole one with number 0. */
    private static CubicBench rests(int a, int b, int p) {
        CubicBench bench = new CubicBench();
        bench.cubic(a, b);
        bench.rest(0, p);
        return bench;
    }

    private static void countOf(int want, int a, int b, int p) {
        CubicBench bench = rests(a, b, p);
        Due.is(want, "count of " + a + ", " + b + " by " + p, () -> bench.count(1));
        Due.is(want, "count again", () -> bench.count(1));
        Due.is(2L * p + 2 - want, "count of the turned one", () -> bench.count(bench.turned(1)));
        Due.is(0, "no points told", () -> bench.counted(1));
    }

    private static void count() {
        countOf(9, 1, 1, 5);
        countOf(8, -1, 0, 5);
        countOf(9, 0, 2, 7);
        countOf(28, 1, 1, 23);
        countOf(12, 0, 1, 7);
        countOf(7, 0, 5, 7);
        countOf(13, 1, 6, 11);
        countOf(10, 5, 0, 13);
        CubicBench bench = rests(1, 1, 5);
        Due.argument("count of a whole one", () -> bench.count(0));
        Due.index("count of none", () -> bench.count(2));
        Due.index("count below", () -> bench.count(-1));
    }

    /** Where p leaves 2 by 3 and a is 0, or leaves 3 by 4 and b is 0, N is p + 1. */
    private static void countOfGreatPrimes() {
        countOf(2004, 0, 5, 2003);
        countOf(1000004, 7, 0, 1000003);
        countOf(999984, -9999, 0, 999983);
        countOf(65538, 0, 9999, 65537);
        for (int p : new int[] {1999, 2003, 2011, 99991, 999983, 1000003}) {
            for (int k = 1; k < 4; k++) {
                int a = 17 * k - 40;
                int b = 29 - 11 * k * k;
                countOf(naiveCount(a, b, p), a, b, p);
            }
        }
    }

    private static int naiveCount(long a, long b, long p) {
        byte[] roots = new byte[(int) p];
        for (long y = 0; y < p; y++) {
            roots[(int) (y * y % p)]++;
        }
        int all = 1;
        for (long x = 0; x < p; x++) {
            all += roots[(int) Math.floorMod(x * x % p * x + a * x + b, p)];
        }
        return all;
    }

    private static void over() {
        CubicBench bench = rests(1, 1, 5);
        Due.is(9, "over 1", () -> bench.over(1, 1));
        Due.is(27, "over 2: t is -3, u(2) is -1", () -> bench.over(1, 2));
        Due.is(108, "over 3: u(3) is 18", () -> bench.over(1, 3));
        Due.argument("over 0", () -> bench.over(1, 0));
        Due.argument("over 4", () -> bench.over(1, 4));
        Due.argument("over -1", () -> bench.over(1, -1));
        Due.argument("over of a whole one", () -> bench.over(0, 1));
        Due.index("over of none", () -> bench.over(2, 1));
        Due.index("over of none, 4", () -> bench.over(-1, 4));
        CubicBench great = rests(7, 0, 1000003);
        Due.is(1000004, "great over 1", () -> great.over(1, 1));
        Due.is(1000003L * 1000003 + 1 + 2 * 1000003, "great over 2", () -> great.over(1, 2));
        Due.is(1000003L * 1000003 * 1000003 + 1, "great over 3", () -> great.over(1, 3));
    }

    private static void list() {
        CubicBench bench = rests(1, 1, 5);
        int[][] due = {{}, {0, 1}, {0, 4}, {2, 1}, {2, 4}, {3, 1}, {3, 4}, {4, 2}, {4, 3}};
        Due.is(0, "the last one, told first", () -> bench.list(1, 8));
        Due.is(1, "far", () -> bench.list(1, 0));
        Due.is(1, "is far", () -> bench.told(1, 1));
        for (int k = 1; k < 8; k++) {
            int at = k;
            Due.is(k + 1, "list " + k, () -> bench.list(1, at));
            Due.is(k + 1, "point " + k, () -> bench.point(1, due[at][0], due[at][1]));
        }
        Due.is(0, "point 8", () -> bench.point(1, 4, 3));
        Due.is(-1, "list 9", () -> bench.list(1, 9));
        Due.is(-1, "list -1", () -> bench.list(1, -1));
        Due.is(-1, "list greatest", () -> bench.list(1, Integer.MAX_VALUE));
        Due.is(9, "nine told", () -> bench.counted(1));
        bench.rest(0, 1999);
        bench.rest(0, 2003);
        Due.is(9, "far by 1999", () -> bench.list(2, 0));
        Due.is(10, "last by 1999", () -> bench.list(2, bench.count(2) - 1));
        Due.is(-1, "behind the last by 1999", () -> bench.list(2, bench.count(2)));
        Due.argument("p above 2,000", () -> bench.list(3, 0));
        Due.argument("of a whole one", () -> bench.list(0, 0));
        Due.index("of none", () -> bench.list(4, 0));
        Due.index("below", () -> bench.list(-1, 0));
    }

    private static void groupOf(int n, int m, int[] first, int[] second, CubicBench bench) {
        Due.is(n, "n", () -> bench.group(1, 0));
        Due.is(m, "m", () -> bench.group(1, 1));
        Due.is(0, "n and m tell no points", () -> bench.counted(1));
        int one = bench.group(1, 2);
        int two = bench.group(1, 3);
        Due.is(one, "first maker", () -> bench.point(1, first[0], first[1]));
        if (second == null) {
            Due.is(1, "second maker is far", () -> bench.told(two, 1));
        } else {
            Due.is(two, "second maker", () -> bench.point(1, second[0], second[1]));
        }
    }

    private static void group() {
        groupOf(9, 1, new int[] {0, 1}, null, rests(1, 1, 5));
        groupOf(4, 2, new int[] {2, 1}, new int[] {1, 0}, rests(-1, 0, 5));
        groupOf(3, 3, new int[] {0, 3}, new int[] {3, 1}, rests(0, 2, 7));
        groupOf(6, 2, new int[] {1, 3}, new int[] {5, 0}, rests(0, 1, 7));
        groupOf(28, 1, new int[] {0, 1}, null, rests(1, 1, 23));
        groupOf(8, 1, new int[] {5, 3}, null, rests(2, 0, 7));
        groupOf(12, 1, new int[] {2, 1}, null, rests(3, 1, 7));
        groupOf(6, 2, new int[] {2, 3}, new int[] {4, 0}, rests(0, 1, 13));
        groupOf(6, 6, new int[] {1, 8}, new int[] {2, 3}, rests(0, 1, 31));
        groupOf(12, 4, new int[] {3, 18}, new int[] {14, 9}, rests(0, 1, 37));
        groupOf(12, 4, new int[] {6, 20}, new int[] {4, 2}, rests(0, 1, 61));
        CubicBench bench = rests(1, 1, 5);
        bench.rest(0, 2003);
        Due.argument("what 4", () -> bench.group(1, 4));
        Due.argument("what -1", () -> bench.group(1, -1));
        Due.argument("p above 2,000", () -> bench.group(2, 0));
        Due.argument("of a whole one", () -> bench.group(0, 0));
        Due.index("of none", () -> bench.group(3, 0));
        Due.index("of none, another what", () -> bench.group(-1, 4));
    }

    /** Every cubic by 5 and by 7, those with few points among them. */
    private static void groupOfAll() {
        for (int p : new int[] {5, 7}) {
            for (int a = 0; a < p; a++) {
                for (int b = 0; b < p; b++) {
                    CubicBench bench = new CubicBench();
                    if (bench.cubic(a, b) == 0 && bench.rest(0, p) == 1) {
                        Due.is(bench.count(1), "n m of " + a + ", " + b + " by " + p,
                                () -> (long) bench.group(1, 0) * bench.group(1, 1));
                        int first = bench.group(1, 2);
                        int second = bench.group(1, 3);
                        Due.is(bench.group(1, 0), "order of the first", () -> bench.order(first));
                        Due.is(bench.group(1, 1), "order of the second", () -> bench.order(second));
                    }
                }
            }
        }
    }

    private static int at(CubicBench bench, int x, int y) {
        return bench.point(1, x, y);
    }

    private static void pair() {
        CubicBench bench = rests(0, 1, 31);
        int[][] due = {{0, 1, 1, 8, 25}, {0, 1, 1, 23, 5}, {0, 1, 2, 3, 1}, {0, 30, 16, 6, 25}, {1, 8, 2, 3, 6},
            {1, 8, 2, 28, 26}, {1, 8, 6, 0, 1}, {1, 8, 16, 6, 30}, {1, 8, 13, 11, 25}, {1, 23, 30, 0, 30}, {1, 23, 25, 8, 6}};
        for (int[] row : due) {
            Due.is(row[4], "pair of " + row[0] + ", " + row[1] + " and " + row[2] + ", " + row[3],
                    () -> bench.pair(at(bench, row[0], row[1]), at(bench, row[2], row[3]), 6));
        }
        int far = bench.far(1);
        Due.is(1, "with far", () -> bench.pair(at(bench, 1, 8), far, 6));
        Due.is(1, "far with", () -> bench.pair(far, at(bench, 1, 8), 6));
        Due.is(1, "far twice", () -> bench.pair(far, far, 2));
        Due.is(1, "far twice by a million", () -> bench.pair(far, far, 1000000));
        Due.is(1, "with itself", () -> bench.pair(at(bench, 1, 8), at(bench, 1, 8), 6));
        CubicBench none = rests(0, 1, 7);
        Due.is(-1, "no S", () -> none.pair(at(none, 1, 3), at(none, 2, 3), 6));
        Due.is(6, "an S", () -> none.pair(at(none, 1, 3), at(none, 2, 4), 6));
        Due.is(6, "by 2", () -> none.pair(at(none, 3, 0), at(none, 5, 0), 2));
        CubicBench few = rests(1, 0, 5);
        Due.is(-1, "no S by 2", () -> few.pair(at(few, 0, 0), at(few, 2, 0), 2));
        Due.is(1, "the same without an S", () -> few.pair(at(few, 2, 0), at(few, 2, 0), 2));
    }

    private static void pairOfThree() {
        CubicBench bench = rests(0, 2, 7);
        int[][] others = {{0, 4, 1}, {3, 1, 4}, {3, 6, 2}, {5, 1, 4}, {5, 6, 2}, {6, 1, 4}, {6, 6, 2}};
        int p = at(bench, 0, 3);
        for (int[] row : others) {
            int q = at(bench, row[0], row[1]);
            Due.is(row[2], "pair with " + row[0] + ", " + row[1], () -> bench.pair(p, q, 3));
            int back = row[2] == 4 ? 2 : row[2] == 2 ? 4 : 1;
            Due.is(back, "pair from the other side", () -> bench.pair(q, p, 3));
        }
    }

    private static void pairRefused() {
        CubicBench bench = rests(-1, 0, 5);
        int p = at(bench, 2, 1);
        int q = at(bench, 3, 2);
        int two = at(bench, 0, 0);
        bench.rest(0, 13);
        int other = bench.point(2, 0, 0);
        int whole = bench.point(0, 0, 0);
        bench.rest(0, 2003);
        int wide = bench.point(3, 0, 0);
        Due.is(4, "by 4", () -> bench.pair(p, q, 4));
        Due.argument("by 2, but order 4", () -> bench.pair(p, two, 2));
        Due.argument("by 2, the other order 4", () -> bench.pair(two, p, 2));
        Due.argument("by 6", () -> bench.pair(p, q, 6));
        Due.argument("by 1", () -> bench.pair(p, q, 1));
        Due.argument("by 0", () -> bench.pair(p, q, 0));
        Due.argument("by -4", () -> bench.pair(p, q, -4));
        Due.argument("by 20, a multiple of p", () -> bench.pair(p, q, 20));
        Due.argument("by 1,000,000, a multiple of p", () -> bench.pair(p, q, 1000000));
        Due.argument("by 1,000,004", () -> bench.pair(p, q, 1000004));
        Due.argument("not of one cubic", () -> bench.pair(two, other, 2));
        Due.argument("of a whole one", () -> bench.pair(whole, whole, 2));
        Due.argument("p above 2,000", () -> bench.pair(wide, wide, 2));
        int far = bench.far(1);
        Due.argument("far, but by 1", () -> bench.pair(far, far, 1));
        Due.argument("far and one that does not come back", () -> bench.pair(far, p, 2));
        Due.argument("the same, but it does not come back", () -> bench.pair(p, p, 2));
        Due.index("none", () -> bench.pair(p, 99, 4));
        Due.index("none first, and by 0", () -> bench.pair(-1, q, 0));
    }
}
