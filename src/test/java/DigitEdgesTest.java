/** SPENT, ORDER, and what print, counted and octet tell: promises 8, 10 to 13, 28 and 29 at their edges. */
public final class DigitEdgesTest {
    private static final int LEAST = Integer.MIN_VALUE;
    private static final int MOST = Integer.MAX_VALUE;

    /** a, b, x, y of a point, n, and the digits above and below of y of n times it. */
    private static final int[][] NOT_SPENT = {{-21, -11, 5, 3, 14, 100, 99}, {-25, 9, -5, 3, 10, 100, 99}, {-24, 19, -3, 8, 9, 100, 99},
        {-11, -5, -3, 1, 12, 99, 100}, {-11, 11, -2, 5, 10, 99, 100}, {-9, 19, 2, 3, 14, 99, 100}, {5, -5, 1, 1, 15, 99, 100},
        {-25, 0, -4, 6, 9, 100, 100}, {-18, -27, -2, 1, 15, 100, 100}, {-7, 10, 2, 2, 12, 100, 100}};
    private static final int[][] SPENT = {{-25, -24, 7, 12, 9, 101, 100}, {-23, 15, 5, 5, 10, 101, 97}, {-23, 14, -1, 6, 14, 101, 95},
        {-21, -9, 6, 9, 10, 101, 100}, {4, -12, 2, 2, 18, 100, 101}, {4, -12, 12, 42, 9, 100, 101}, {6, -3, 1, 2, 12, 99, 101}};

    public static void main(String[] args) {
        hundredDigits();
        hundredAndOneDigits();
        spentOnTheWay();
        farIsNeverSpent();
        ordersOfWhole();
        noOrder();
        ordersOfRests();
        toldWhat();
        printWhat();
        printedForms();
        pageOfFar();
        pageIsWrittenAnew();
        countedWhat();
        octets();
        Due.end();
    }

    private static String page(CubicBench bench) {
        StringBuilder text = new StringBuilder();
        int bytes = bench.counted(2);
        for (int k = 0; k < bytes; k++) {
            text.append((char) bench.octet(k));
        }
        return text.toString();
    }

    private static void hasDigits(CubicBench bench, int p, int above, int below, String name) {
        bench.print(p, 1);
        String[] parts = page(bench).replace("-", "").split("/");
        Due.same(above + " " + below, parts[0].length() + " " + (parts.length > 1 ? parts[1].length() : 0), name);
    }

    /** "more than 100 digits above or below": 100 are not; a minus is no digit. */
    private static void hundredDigits() {
        for (int[] row : NOT_SPENT) {
            CubicBench bench = Made.whole(row[0], row[1]);
            String name = row[4] + " times " + row[2] + ", " + row[3];
            int p = bench.point(0, row[2], row[3]);
            int minus = bench.point(0, row[2], -row[3]);
            Due.is(2, name, () -> bench.times(p, row[4]));
            hasDigits(bench, 2, row[5], row[6], name);
            Due.is(3, "-" + name, () -> bench.times(p, -row[4]));
            Due.is(3, "mirrored, " + name, () -> bench.times(minus, row[4]));
            Due.is(row[5] + row[6] + (page(bench).startsWith("-") ? 1 : 2), "bytes of -" + name, () -> bench.print(3, 1));
            int before = bench.times(p, row[4] - 1);
            Due.is(2, "added, " + name, () -> bench.add(before, p));
            Due.is(2, "added from the other side, " + name, () -> bench.add(p, before));
            int third = bench.times(p, row[4] - 3);
            int three = bench.times(p, 3);
            Due.is(2, "added with three, " + name, () -> bench.add(third, three));
        }
    }

    private static void hundredAndOneDigits() {
        for (int[] row : SPENT) {
            CubicBench bench = Made.whole(row[0], row[1]);
            String name = row[4] + " times " + row[2] + ", " + row[3];
            int p = bench.point(0, row[2], row[3]);
            int before = bench.times(p, row[4] - 1);
            int third = bench.times(p, row[4] - 3);
            int three = bench.times(p, 3);
            int points = bench.counted(1);
            Due.is(-2, name, () -> bench.times(p, row[4]));
            Due.is(-2, "-" + name, () -> bench.times(p, -row[4]));
            Due.is(-2, "added, " + name, () -> bench.add(before, p));
            Due.is(-2, "added from the other side, " + name, () -> bench.add(p, before));
            Due.is(-2, "added with three, " + name, () -> bench.add(three, third));
            Due.is(points, "none kept, " + name, () -> bench.counted(1));
            Due.is(before, "one less, " + name, () -> bench.times(p, row[4] - 1));
        }
    }

    /** "goes up one by one from TIMES 2, and is SPENT as soon as one is": so all behind it are. */
    private static void spentOnTheWay() {
        for (int[] row : SPENT) {
            CubicBench bench = Made.whole(row[0], row[1]);
            int p = bench.point(0, row[2], row[3]);
            for (int n = row[4]; n <= 20; n++) {
                int often = n;
                Due.is(-2, n + " times", () -> bench.times(p, often));
                Due.is(-2, "-" + n + " times", () -> bench.times(p, -often));
            }
        }
    }

    private static void farIsNeverSpent() {
        CubicBench bench = Made.whole(-25, 0);
        int longest = bench.times(bench.point(0, -4, 6), 9);
        int far = bench.far(0);
        Due.is(longest, "far and a long one", () -> bench.add(far, longest));
        Due.is(longest, "a long one and far", () -> bench.add(longest, far));
        Due.is(far, "a long one and its mirror", () -> bench.add(longest, bench.mirror(longest)));
        Due.is(0, "a long one has no order", () -> bench.order(longest));
    }

    /** By Mazur 8, 10 and 12 might be too, but a search found none of them with a and b up to 10,000. */
    private static void ordersOfWhole() {
        int[][] due = {{0, 1, -1, 0, 2}, {-10000, 0, 100, 0, 2}, {-10000, 0, -100, 0, 2}, {0, 1, 0, 1, 3}, {0, 10000, 0, 100, 3},
            {0, 10000, 0, -100, 3}, {4, 0, 2, 4, 4}, {-2, 1, 0, 1, 4}, {-11, 14, 1, -2, 4}, {9604, 0, 98, 1372, 4}, {9604, 0, 98, -1372, 4}, {-432, 8208, 24, 108, 5},
            {0, 1, 2, 3, 6}, {0, 1, 2, -3, 6}, {-43, 166, 3, 8, 7}, {-43, 166, -5, 16, 7}, {-219, 1654, 11, 24, 9}};
        for (int[] row : due) {
            CubicBench bench = Made.whole(row[0], row[1]);
            int p = bench.point(0, row[2], row[3]);
            Due.is(row[4], "order of " + row[2] + ", " + row[3] + " on " + row[0] + ", " + row[1], () -> bench.order(p));
            Due.is(1, "it comes back", () -> bench.told(bench.times(p, row[4]), 1));
            for (int n = 1; n < row[4]; n++) {
                int often = n;
                Due.is(0, "but not by " + n, () -> bench.told(bench.times(p, often), 1));
            }
        }
    }

    /** "of WHOLE ones 0, if there is none such" */
    private static void noOrder() {
        int[][] endless = {{0, -2, 3, 5}, {0, 17, -2, 3}, {0, 17, 5234, 378661}, {1, -10000, 10000, 1000000}, {-11, 15, 2, 1},
            {4, -12, 2, 2}, {-10000, 10000, 0, 100}, {0, -999, 10, 1}, {-18, -819, 10, 1}};
        for (int[] row : endless) {
            CubicBench bench = Made.whole(row[0], row[1]);
            int p = bench.point(0, row[2], row[3]);
            Due.is(0, "order of " + row[2] + ", " + row[3], () -> bench.order(p));
            Due.is(0, "of its mirror", () -> bench.order(bench.mirror(p)));
            Due.is(0, "of twice it", () -> bench.order(bench.times(p, 2)));
            Due.is(3, "order tells no point", () -> bench.counted(1));
        }
    }

    /** Of RESTS it may be above 12, up to N itself; 1 of FAR alone. */
    private static void ordersOfRests() {
        CubicBench bench = Made.rests(2, 14, 97);
        Due.is(101, "N is 101, a prime", () -> bench.count(1));
        Due.is(1, "far", () -> bench.order(bench.list(1, 0)));
        for (int k : new int[] {1, 2, 50, 99, 100}) {
            Due.is(101, "all others, " + k, () -> bench.order(bench.list(1, k)));
        }
        CubicBench two = Made.rests(2, 0, 5);
        Due.is(2, "N is 2", () -> two.count(1));
        Due.is(2, "its other point", () -> two.order(two.list(1, 1)));
        CubicBench fives = Made.rests(3, 2, 5);
        Due.is(5, "N is p itself", () -> fives.order(fives.list(1, 1)));
        CubicBench doubled = Made.rests(11, -30, 1000003);
        Due.is(1000306, "N is twice a prime", () -> doubled.count(1));
        Due.is(2, "of one that comes back by 2", () -> doubled.order(doubled.point(1, 2, 0)));
        Due.is(1, "of far", () -> doubled.order(doubled.far(1)));
        CubicBench great = Made.rests(7, 0, 1000003);
        Due.is(2, "by the greatest p", () -> great.order(great.point(1, 0, 0)));
        Due.is(1, "far by the greatest p", () -> great.order(great.far(1)));
    }

    /** "IllegalArgumentException: another what." */
    private static void toldWhat() {
        CubicBench bench = Made.rests(0, 1, 7);
        int p = bench.point(1, 0, 1);
        int far = bench.far(0);
        for (int what : new int[] {-1, 2, 3, LEAST, MOST}) {
            Due.argument("told " + what, () -> bench.told(p, what));
            Due.argument("told of far " + what, () -> bench.told(far, what));
            Due.argument("print " + what, () -> bench.print(p, what));
            Due.argument("print of far " + what, () -> bench.print(far, what));
        }
        Due.is(1, "its cubic", () -> bench.told(p, 0));
        Due.is(0, "not far", () -> bench.told(p, 1));
        Due.is(0, "far's cubic", () -> bench.told(far, 0));
        Due.is(1, "far", () -> bench.told(far, 1));
    }

    private static void printed(CubicBench bench, int p, int what, String due) {
        Due.is(due.length(), "bytes of " + due, () -> bench.print(p, what));
        Due.text(due, "printed " + due, bench);
    }

    private static void printWhat() {
        CubicBench bench = Made.whole(0, 1);
        int p = bench.point(0, 2, 3);
        printed(bench, p, 0, "2");
        printed(bench, p, 1, "3");
    }

    /** "p/q in lowest terms, - ahead; p alone if q is 1" */
    private static void printedForms() {
        CubicBench bench = Made.whole(1, -10000);
        int p = bench.point(0, 10000, -1000000);
        printed(bench, p, 0, "10000");
        printed(bench, p, 1, "-1000000");
        bench.cubic(0, 1);
        int flat = bench.point(1, -1, 0);
        printed(bench, flat, 0, "-1");
        printed(bench, flat, 1, "0");
        printed(bench, bench.point(1, 0, 1), 0, "0");
        bench.cubic(0, 17);
        int half = bench.add(bench.point(2, -2, 3), bench.point(2, 2, 5));
        printed(bench, half, 0, "1/4");
        printed(bench, half, 1, "-33/8");
        printed(bench, bench.mirror(half), 1, "33/8");
        int minus = bench.times(bench.point(2, -2, 3), 3);
        printed(bench, minus, 0, "19/25");
        printed(bench, minus, 1, "522/125");
        int below = bench.times(bench.point(2, -1, 4), 2);
        printed(bench, below, 0, "137/64");
        printed(bench, below, 1, "-2651/512");
        int nine = bench.times(bench.point(2, 2, 5), 2);
        printed(bench, nine, 0, "-64/25");
        printed(bench, nine, 1, "59/125");
        bench.rest(2, 1000003);
        int rest = bench.point(3, 1000001, 1000000);
        printed(bench, rest, 0, "1000001");
        printed(bench, rest, 1, "1000000");
    }

    /** "NONE, and the PAGE stays: it is FAR." */
    private static void pageOfFar() {
        CubicBench bench = Made.rests(0, 17, 7);
        int far = bench.far(0);
        int restFar = bench.far(1);
        printed(bench, bench.add(bench.point(0, -2, 3), bench.point(0, 2, 5)), 1, "-33/8");
        for (int what = 0; what < 2; what++) {
            int which = what;
            Due.is(-1, "x or y of far", () -> bench.print(far, which));
            Due.text("-33/8", "the page stays", bench);
            Due.is(-1, "x or y of far of rests", () -> bench.print(restFar, which));
            Due.text("-33/8", "the page stays", bench);
        }
    }

    private static void pageIsWrittenAnew() {
        CubicBench bench = Made.whole(-25, 0);
        int p = bench.point(0, -4, 6);
        int longest = bench.times(p, 9);
        Due.is(201, "100 digits, / and 100 digits", () -> bench.print(longest, 1));
        Due.is(201, "bytes of the page", () -> bench.counted(2));
        Due.is(-1, "none behind them", () -> bench.octet(201));
        Due.is('/', "the stroke between", () -> bench.octet(100));
        int minus = bench.mirror(longest);
        Due.is(202, "with a minus", () -> bench.print(minus, 1));
        Due.is('-', "ahead", () -> bench.octet(0));
        Due.is(-1, "none behind those", () -> bench.octet(202));
        printed(bench, p, 1, "6");
        Due.is(-1, "nothing is left of the long one", () -> bench.octet(1));
    }

    /** "NONE for others" */
    private static void countedWhat() {
        CubicBench bench = Made.rests(0, 1, 7);
        bench.print(bench.point(0, 2, 3), 0);
        Due.is(2, "cubics", () -> bench.counted(0));
        Due.is(1, "points", () -> bench.counted(1));
        Due.is(1, "bytes", () -> bench.counted(2));
        for (int what : new int[] {-1, 3, 4, LEAST, MOST}) {
            Due.is(-1, "counted " + what, () -> bench.counted(what));
        }
    }

    private static void octets() {
        CubicBench bench = Made.whole(0, 17);
        bench.print(bench.add(bench.point(0, -2, 3), bench.point(0, 2, 5)), 1);
        String due = "-33/8";
        for (int k = 0; k < due.length(); k++) {
            int at = k;
            Due.is(due.charAt(k), "octet " + k, () -> bench.octet(at));
        }
        for (int k : new int[] {-1, 5, 6, 255, 256, 257, LEAST, MOST}) {
            Due.is(-1, "octet " + k, () -> bench.octet(k));
        }
    }
}
