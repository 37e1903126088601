/** Promises 14 to 17 at the edges that the document names, on both sides of each. */
public final class BackEdgesTest {
    private static final int LEAST = Integer.MIN_VALUE;
    private static final int MOST = Integer.MAX_VALUE;

    public static void main(String[] args) {
        farAlone();
        heightNought();
        greatestOfBack();
        divisorsThatDoNotComeBack();
        byXThenByY();
        placesOfBack();
        backIsOfWhole();
        backTellsNoPoints();
        leastAndGreatestBound();
        boundOfR();
        boundOfS();
        nothingInCommon();
        heightNoughtOrAbove();
        bySThenByR();
        mostFound();
        searchIsOfWhole();
        foundPlaces();
        foundWhat();
        latestSearch();
        Due.end();
    }

    private static void isBack(int a, int b, int[][] due) {
        CubicBench bench = Made.whole(a, b);
        String name = "back of " + a + ", " + b;
        Due.is(due.length + 1, name, () -> bench.back(0));
        Due.is(0, name + " begins", () -> bench.backAt(0, 0));
        Due.is(1, name + " begins with far", () -> bench.told(0, 1));
        for (int k = 1; k <= due.length; k++) {
            int at = k;
            Due.is(k, name + ", " + k, () -> bench.backAt(0, at));
            Due.is(k, name + ", " + k + " is " + due[k - 1][0] + ", " + due[k - 1][1], () -> bench.point(0, due[at - 1][0], due[at - 1][1]));
        }
        Due.is(-1, name + ", behind the last one", () -> bench.backAt(0, due.length + 1));
        Due.is(-1, name + ", below the first one", () -> bench.backAt(0, -1));
        Due.is(due.length + 1, name + ", points", () -> bench.counted(1));
    }

    private static void farAlone() {
        isBack(0, -2, new int[][] {});
        isBack(10000, 10000, new int[][] {});
        isBack(-10000, -10000, new int[][] {});
        isBack(0, -10000, new int[][] {});
    }

    /** "y 0": with one root, with three, and those that lie outermost. */
    private static void heightNought() {
        isBack(1, 0, new int[][] {{0, 0}});
        isBack(0, 8, new int[][] {{-2, 0}});
        isBack(0, -8, new int[][] {{2, 0}});
        isBack(-1, 0, new int[][] {{-1, 0}, {0, 0}, {1, 0}});
        isBack(-10000, 0, new int[][] {{-100, 0}, {0, 0}, {100, 0}});
        isBack(10000, 0, new int[][] {{0, 0}});
        isBack(0, 9261, new int[][] {{-21, 0}});
        isBack(0, -9261, new int[][] {{21, 0}});
        isBack(-28, 57, new int[][] {{3, 0}});
        isBack(-676, 6765, new int[][] {{15, 0}});
    }

    private static void greatestOfBack() {
        isBack(0, 10000, new int[][] {{0, -100}, {0, 100}});
        isBack(9604, 0, new int[][] {{0, 0}, {98, -1372}, {98, 1372}});
        isBack(-1964, 1232, new int[][] {{44, 0}, {106, -992}, {106, 992}});
        isBack(-9152, -6144, firstOf(-9152, -6144));
        isBack(-432, 8208, new int[][] {{-12, -108}, {-12, 108}, {24, -108}, {24, 108}});
        isBack(-43, 166, new int[][] {{-5, -16}, {-5, 16}, {3, -8}, {3, 8}, {11, -32}, {11, 32}});
        isBack(-351, 1890, new int[][] {{-21, 0}, {-3, -54}, {-3, 54}, {6, 0}, {15, 0}, {33, -162}, {33, 162}});
        isBack(-219, 1654, new int[][] {{-13, -48}, {-13, 48}, {3, -32}, {3, 32}, {11, -24}, {11, 24}, {35, -192}, {35, 192}});
    }

    /** y * y divides WORTH (27 * 289 of 0, 17), but "that have an ORDER above 0" leaves them out. */
    private static void divisorsThatDoNotComeBack() {
        isBack(0, 17, new int[][] {});
        isBack(-11, 15, new int[][] {});
        CubicBench bench = Made.whole(0, 17);
        Due.is(0, "order", () -> bench.order(bench.point(0, -2, 3)));
        Due.is(27 * 289 % 9, "9 divides its WORTH", () -> bench.about(0, 3) % 9);
    }

    private static void byXThenByY() {
        isBack(0, 1, new int[][] {{-1, 0}, {0, -1}, {0, 1}, {2, -3}, {2, 3}});
        isBack(4, 0, new int[][] {{0, 0}, {2, -4}, {2, 4}});
        isBack(-1647, 4914, firstOf(-1647, 4914));
    }

    /** The points with whole x and y that come back, found by order() alone. */
    private static int[][] firstOf(int a, int b) {
        java.util.List<int[]> all = new java.util.ArrayList<>();
        for (int x = -50; x < 400; x++) {
            long square = (long) x * x * x + (long) a * x + b;
            int y = (int) Math.round(Math.sqrt(Math.max(0, square)));
            if ((long) y * y == square) {
                for (int height : y == 0 ? new int[] {0} : new int[] {-y, y}) {
                    CubicBench bench = Made.whole(a, b);
                    if (bench.order(bench.point(0, x, height)) > 0) {
                        all.add(new int[] {x, height});
                    }
                }
            }
        }
        return all.toArray(new int[0][]);
    }

    /** "The k-th POINT of BACK, from 0 on: its number; NONE without one." */
    private static void placesOfBack() {
        CubicBench bench = Made.whole(0, 1);
        for (int k : new int[] {-1, -2, 6, 7, 32, LEAST, MOST}) {
            Due.is(-1, "backAt " + k, () -> bench.backAt(0, k));
        }
        Due.is(0, "none told", () -> bench.counted(1));
        Due.is(0, "the last one", () -> bench.backAt(0, 5));
        Due.is(1, "the first one", () -> bench.backAt(0, 0));
        Due.is(1, "is far", () -> bench.told(1, 1));
        bench.cubic(0, -2);
        Due.is(2, "far of another", () -> bench.backAt(1, 0));
        Due.is(-1, "and no more", () -> bench.backAt(1, 1));
        Due.is(0, "the first cubic again", () -> bench.backAt(0, 5));
    }

    /** "IllegalArgumentException: it is not WHOLE", of backAt "likewise". */
    private static void backIsOfWhole() {
        CubicBench bench = Made.rests(0, 1, 7);
        Due.argument("back", () -> bench.back(1));
        for (int k : new int[] {0, 1, -1, LEAST, MOST}) {
            Due.argument("backAt " + k, () -> bench.backAt(1, k));
        }
        Due.is(0, "none told", () -> bench.counted(1));
        Due.is(6, "of the whole one", () -> bench.back(0));
    }

    private static void backTellsNoPoints() {
        CubicBench bench = Made.whole(-43, 166);
        Due.is(7, "back", () -> bench.back(0));
        Due.is(7, "back again", () -> bench.back(0));
        Due.is(0, "none told", () -> bench.counted(1));
        bench.search(0, 400);
        Due.is(0, "nor by search", () -> bench.counted(1));
    }

    private static void row(CubicBench bench, int k, int r, int s, long t) {
        Due.is(r, "r of " + k, () -> bench.found(k, 0));
        Due.is(s, "s of " + k, () -> bench.found(k, 1));
        Due.is(t, "t of " + k, () -> bench.found(k, 2));
    }

    /** "B is not 1 to 400" */
    private static void leastAndGreatestBound() {
        CubicBench bench = Made.whole(0, 1);
        Due.is(2, "by 1", () -> bench.search(0, 1));
        Due.is(3, "by 2", () -> bench.search(0, 2));
        Due.is(3, "by 399", () -> bench.search(0, 399));
        Due.is(3, "by 400", () -> bench.search(0, 400));
        for (int bound : new int[] {0, -1, -400, 401, 402, LEAST, MOST}) {
            Due.argument("by " + bound, () -> bench.search(0, bound));
        }
    }

    /** Whether the last or first one of a SEARCH is there by one bound, and not by one less. */
    private static void onlyFrom(int bound, int[] row) {
        CubicBench bench = Made.whole(row[0], row[1]);
        String name = row[2] + " / " + row[3] + " of " + row[0] + ", " + row[1];
        Due.is(1, name + " by " + bound, () -> timesFound(bench, bound, row));
        Due.is(0, name + " by " + (bound - 1), () -> timesFound(bench, bound - 1, row));
    }

    private static int timesFound(CubicBench bench, int bound, int[] row) {
        int all = bench.search(0, bound);
        int times = 0;
        for (int k = 0; k < all; k++) {
            boolean like = bench.found(k, 0) == row[2] && bench.found(k, 1) == row[3] && bench.found(k, 2) == row[4];
            times += like ? 1 : 0;
        }
        return times;
    }

    /** "r -B to B" */
    private static void boundOfR() {
        onlyFrom(400, new int[] {1, -400, 400, 1, 8000});
        onlyFrom(400, new int[] {0, 164, -400, 13, 26974});
        onlyFrom(400, new int[] {96, 241, -400, 13, 1587});
        onlyFrom(400, new int[] {-17, 84, -400, 17, 50314});
        onlyFrom(399, new int[] {-10000, -4980, -399, 2, 9});
        onlyFrom(129, new int[] {0, -2, 129, 10, 383});
        onlyFrom(2, new int[] {0, 17, -2, 1, 3});
        onlyFrom(2, new int[] {0, 1, 2, 1, 3});
    }

    /** "s * s at most B" */
    private static void boundOfS() {
        onlyFrom(4, new int[] {-60, 15, 1, 2, 1});
        onlyFrom(4, new int[] {0, 17, 1, 2, 33});
        onlyFrom(9, new int[] {0, 17, -8, 3, 109});
        onlyFrom(25, new int[] {0, 17, 19, 5, 522});
        onlyFrom(361, new int[] {-57, -20, -127, 19, 654});
        onlyFrom(400, new int[] {-47, 4, 9, 20, 13723});
        onlyFrom(400, new int[] {-20, 20, 361, 20, 13109});
        onlyFrom(400, new int[] {249, 256, -399, 20, 20599});
    }

    /** "r and s without a divisor in common": a whole x comes once, 0 of s 1 alone. */
    private static void nothingInCommon() {
        CubicBench bench = Made.whole(0, 4);
        Due.is(1, "0, 2 alone", () -> bench.search(0, 400));
        row(bench, 0, 0, 1, 2);
        CubicBench other = Made.whole(0, 17);
        int all = other.search(0, 60);
        for (int k = 0; k < all; k++) {
            int r = (int) other.found(k, 0);
            int s = (int) other.found(k, 1);
            Due.is(1, "divisor of " + r + ", " + s, () -> java.math.BigInteger.valueOf(r).gcd(java.math.BigInteger.valueOf(s)).intValue());
        }
        CubicBench roots = Made.whole(-1, 0);
        Due.is(3, "-1, 0 and 1", () -> roots.search(0, 400));
        for (int k = 0; k < 3; k++) {
            row(roots, k, k - 1, 1, 0);
        }
    }

    /** "t 0 or above": one of a point and its mirror. */
    private static void heightNoughtOrAbove() {
        CubicBench bench = Made.whole(0, 1);
        Due.is(3, "each x once", () -> bench.search(0, 5));
        row(bench, 0, -1, 1, 0);
        row(bench, 1, 0, 1, 1);
        row(bench, 2, 2, 1, 3);
        CubicBench great = Made.whole(10000, 10000);
        Due.is(1, "0, 100 is there", () -> timesFound(great, 1, new int[] {0, 0, 0, 1, 100}));
        CubicBench none = Made.whole(-10000, -10000);
        int all = none.search(0, 400);
        for (int k = 0; k < all; k++) {
            int at = k;
            Due.is(1, "t is not below 0", () -> none.found(at, 2) >= 0 ? 1 : 0);
        }
    }

    /** "in order of s, then of r" */
    private static void bySThenByR() {
        CubicBench bench = Made.whole(0, 17);
        int[][] due = {{-2, 1, 3}, {-1, 1, 4}, {2, 1, 5}, {4, 1, 9}, {8, 1, 23}, {43, 1, 282}, {52, 1, 375}, {1, 2, 33},
            {-8, 3, 109}, {106, 3, 1097}, {-64, 5, 59}, {19, 5, 522}, {94, 5, 1047}, {137, 8, 2651}};
        Due.is(due.length, "by 137", () -> bench.search(0, 137));
        for (int k = 0; k < due.length; k++) {
            row(bench, k, due[k][0], due[k][1], due[k][2]);
        }
        Due.index("behind the last one", () -> bench.found(due.length, 0));
    }

    /** More than 64: the most that a search of cubics with 14 or more whole points came upon. */
    private static void mostFound() {
        CubicBench bench = Made.whole(-532, 4420);
        Due.is(66, "search", () -> bench.search(0, 400));
        row(bench, 0, -26, 1, 26);
        row(bench, 31, 346, 1, 6422);
        row(bench, 32, -47, 2, 761);
        row(bench, 63, 166, 11, 80882);
        row(bench, 64, 376, 13, 125198);
        row(bench, 65, -246, 17, 342934);
        Due.index("behind the last one", () -> bench.found(66, 0));
    }

    /** "IllegalArgumentException: it is not WHOLE" */
    private static void searchIsOfWhole() {
        CubicBench bench = Made.rests(0, 1, 7);
        for (int bound : new int[] {1, 400, 0, 401}) {
            Due.argument("search of rests by " + bound, () -> bench.search(1, bound));
        }
        Due.index("nothing searched", () -> bench.found(0, 0));
    }

    /** "IndexOutOfBoundsException: there is none" */
    private static void foundPlaces() {
        CubicBench bench = Made.whole(0, 1);
        bench.search(0, 2);
        Due.is(-1, "the first one", () -> bench.found(0, 0));
        Due.is(2, "the last one", () -> bench.found(2, 0));
        for (int k : new int[] {-1, 3, 4, 63, 64, 65, LEAST, MOST}) {
            for (int what : new int[] {0, 1, 2, 3, -1}) {
                Due.index("found " + k + ", " + what, () -> bench.found(k, what));
            }
        }
    }

    private static void foundWhat() {
        CubicBench bench = Made.whole(0, 1);
        bench.search(0, 2);
        for (int what : new int[] {-1, 3, 4, LEAST, MOST}) {
            Due.argument("found what " + what, () -> bench.found(0, what));
            Due.argument("found of the last one, what " + what, () -> bench.found(2, what));
        }
        row(bench, 2, 2, 1, 3);
    }

    /** "the latest SEARCH": also one of another cubic, one that is shorter, one that is empty. */
    private static void latestSearch() {
        CubicBench bench = Made.whole(0, 17);
        bench.cubic(0, 1);
        bench.cubic(0, 7);
        bench.search(0, 137);
        row(bench, 13, 137, 8, 2651);
        bench.search(1, 2);
        row(bench, 2, 2, 1, 3);
        Due.index("the longer one is gone", () -> bench.found(3, 0));
        Due.argument("refused", () -> bench.search(0, 0));
        row(bench, 0, -1, 1, 0);
        Due.is(0, "nothing", () -> bench.search(2, 400));
        Due.index("then there is none", () -> bench.found(0, 0));
        bench.search(0, 2);
        row(bench, 0, -2, 1, 3);
    }
}
