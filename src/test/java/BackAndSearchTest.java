/** Promises 14 to 17: back, backAt, search, found. */
public final class BackAndSearchTest {
    public static void main(String[] args) {
        back();
        backAt();
        backEdges();
        search();
        found();
        searchEdges();
        Due.end();
    }

    private static void backOf(int want, int a, int b) {
        CubicBench bench = new CubicBench();
        bench.cubic(a, b);
        Due.is(want, "back of " + a + ", " + b, () -> bench.back(0));
        Due.is(0, "back tells no points", () -> bench.counted(1));
    }

    private static void back() {
        backOf(6, 0, 1);
        backOf(1, 0, -2);
        backOf(4, -1, 0);
        backOf(2, 1, 0);
        backOf(4, 4, 0);
        backOf(3, 0, 4);
        backOf(7, -43, 166);
        backOf(9, -219, 1654);
        backOf(8, -351, 1890);
        backOf(3, 0, -432);
        backOf(5, -432, 8208);
        backOf(1, 10000, 9999);
        backOf(1, -10000, 10000);
        backOf(4, -10000, 0);
        backOf(3, 0, 10000);
        backOf(2, 0, 8000);
        backOf(1, 0, 17);
        CubicBench bench = new CubicBench();
        bench.cubic(0, 1);
        bench.rest(0, 7);
        Due.argument("back of rests", () -> bench.back(1));
        Due.index("back of none", () -> bench.back(2));
        Due.index("back below", () -> bench.back(-1));
    }

    private static void at(CubicBench bench, int number, int x, int y) {
        Due.is(number, "point " + x + ", " + y, () -> bench.point(0, x, y));
    }

    private static void backAt() {
        CubicBench bench = new CubicBench();
        bench.cubic(0, 1);
        Due.is(0, "the last one, told first", () -> bench.backAt(0, 5));
        at(bench, 0, 2, 3);
        for (int k = 0; k < 5; k++) {
            int at = k;
            Due.is(k + 1, "backAt " + k, () -> bench.backAt(0, at));
        }
        Due.is(1, "the first one is far", () -> bench.told(1, 1));
        at(bench, 2, -1, 0);
        at(bench, 3, 0, -1);
        at(bench, 4, 0, 1);
        at(bench, 5, 2, -3);
        Due.is(-1, "backAt 6", () -> bench.backAt(0, 6));
        Due.is(-1, "backAt -1", () -> bench.backAt(0, -1));
        Due.is(-1, "backAt greatest", () -> bench.backAt(0, Integer.MAX_VALUE));
        Due.is(6, "six points", () -> bench.counted(1));
        bench.cubic(-1, 0);
        Due.is(6, "far of another", () -> bench.backAt(1, 0));
        Due.is(4, "back to the first one", () -> bench.backAt(0, 3));
        bench.rest(0, 7);
        Due.argument("backAt of rests", () -> bench.backAt(2, 0));
        Due.index("backAt of none", () -> bench.backAt(3, 0));
        Due.index("backAt below", () -> bench.backAt(-1, -1));
    }

    /** Three roots, and heights whose squares are great divisors of WORTH. */
    private static void backEdges() {
        CubicBench bench = new CubicBench();
        bench.cubic(-10000, 0);
        bench.far(0);
        at(bench, 1, -100, 0);
        at(bench, 2, 0, 0);
        at(bench, 3, 100, 0);
        for (int k = 0; k < 4; k++) {
            int at = k;
            Due.is(k, "root " + k, () -> bench.backAt(0, at));
        }
        CubicBench other = new CubicBench();
        other.cubic(2500, 0);
        Due.is(4, "y is 500", () -> other.back(0));
        at(other, 0, 50, -500);
        Due.is(0, "50, -500", () -> other.backAt(0, 2));
        Due.is(4, "order 4", () -> other.order(0));
    }

    private static void search() {
        CubicBench bench = new CubicBench();
        bench.cubic(0, -2);
        Due.is(0, "by 1", () -> bench.search(0, 1));
        Due.is(1, "by 3", () -> bench.search(0, 3));
        Due.is(1, "by 128", () -> bench.search(0, 128));
        Due.is(2, "by 129", () -> bench.search(0, 129));
        Due.argument("by 0", () -> bench.search(0, 0));
        Due.argument("by -1", () -> bench.search(0, -1));
        Due.argument("by 401", () -> bench.search(0, 401));
        Due.argument("by least", () -> bench.search(0, Integer.MIN_VALUE));
        bench.rest(0, 5);
        Due.argument("of rests", () -> bench.search(1, 5));
        Due.index("of none", () -> bench.search(2, 5));
        Due.index("of none, too wide", () -> bench.search(-1, 500));
        Due.is(129, "the latest one stays", () -> bench.found(1, 0));
    }

    private static void row(CubicBench bench, int k, int r, int s, long t) {
        Due.is(r, "r of " + k, () -> bench.found(k, 0));
        Due.is(s, "s of " + k, () -> bench.found(k, 1));
        Due.is(t, "t of " + k, () -> bench.found(k, 2));
    }

    private static void found() {
        CubicBench bench = new CubicBench();
        bench.cubic(0, -2);
        Due.index("ahead of any", () -> bench.found(0, 0));
        bench.search(0, 400);
        row(bench, 0, 3, 1, 5);
        row(bench, 1, 129, 10, 383);
        Due.index("behind the last", () -> bench.found(2, 0));
        Due.index("below", () -> bench.found(-1, 0));
        Due.argument("what 3", () -> bench.found(0, 3));
        Due.argument("what -1", () -> bench.found(1, -1));
        Due.index("behind the last, another what", () -> bench.found(2, 3));
        Due.is(0, "no points told", () -> bench.counted(1));
        bench.cubic(0, 17);
        int[][] due = {{-2, 1, 3}, {-1, 1, 4}, {2, 1, 5}, {4, 1, 9}, {8, 1, 23}, {43, 1, 282}, {52, 1, 375},
            {1, 2, 33}, {-8, 3, 109}, {19, 5, 522}};
        Due.is(due.length, "of 17", () -> bench.search(1, 60));
        for (int k = 0; k < due.length; k++) {
            row(bench, k, due[k][0], due[k][1], due[k][2]);
        }
        Due.is(0, "none left", () -> bench.search(bench.cubic(0, 7), 400));
        Due.index("then none is found", () -> bench.found(0, 0));
    }

    /** r 0 only with s 1; t 0; r and s without a divisor in common; the bounds themselves. */
    private static void searchEdges() {
        CubicBench bench = new CubicBench();
        bench.cubic(-1, 0);
        Due.is(3, "roots", () -> bench.search(0, 1));
        row(bench, 0, -1, 1, 0);
        row(bench, 1, 0, 1, 0);
        row(bench, 2, 1, 1, 0);
        Due.is(3, "roots alone, by 400", () -> bench.search(0, 400));
        bench.cubic(0, 1);
        bench.search(1, 2);
        row(bench, 2, 2, 1, 3);
        bench.search(1, 1);
        Due.index("2 is beyond 1", () -> bench.found(2, 0));
        bench.cubic(0, 4);
        Due.is(1, "0, 2 alone", () -> bench.search(2, 400));
        row(bench, 0, 0, 1, 2);
        bench.cubic(-10000, 10000);
        Due.is(-100, "s is 20 at most", () -> bench.search(3, 400) > 0 ? bench.found(0, 0) : 0);
    }
}
