/** Promises 26 and 27 at the edges that the document names, on both sides of each. */
public final class LeadEdgesTest {
    private static final int GREATEST = 1000003;

    public static void main(String[] args) {
        ordersThatLead();
        ordersOfRestsThatLead();
        everyLedOfSmallRests();
        widestLed();
        tooWideLed();
        restsAreNotTooWide();
        ledTellsNoPoints();
        ledIsToldAgain();
        throughOfFarAndItself();
        throughOfRestsOfFarAndItself();
        throughAsLed();
        throughOfAnotherCubic();
        hundredDigits();
        hundredAndOneDigits();
        throughKeepsBoth();
        allPointsThrough();
        Due.end();
    }

    private static void isCubic(CubicBench bench, int c, int a, int b, int p) {
        Due.is(a, "a of " + c, () -> bench.about(c, 0));
        Due.is(b, "b of " + c, () -> bench.about(c, 1));
        Due.is(p, "p of " + c, () -> bench.about(c, 2));
    }

    /** "-1: its ORDER isn't 2 or 3": 1, 4, 5, 6, 7, 9 and none. */
    private static void ordersThatLead() {
        int[][] not = {{4, 0, 2, 4}, {-432, 8208, 24, 108}, {0, 1, 2, 3}, {0, 1, 2, -3}, {-43, 166, 3, 8}, {-219, 1654, 11, 24}, {0, -2, 3, 5},
            {1, -10000, 10000, 1000000}};
        for (int[] row : not) {
            CubicBench bench = Made.whole(row[0], row[1]);
            int p = bench.point(0, row[2], row[3]);
            int far = bench.far(0);
            Due.is(-1, "led by " + row[2] + ", " + row[3], () -> bench.led(p));
            Due.is(-1, "led by far", () -> bench.led(far));
            Due.is(-1, "through by it", () -> bench.through(p, far));
            Due.is(-1, "through by far", () -> bench.through(far, p));
            Due.is(1, "no cubic more", () -> bench.counted(0));
            Due.is(2, "no point more", () -> bench.counted(1));
        }
        CubicBench bench = Made.whole(0, 1);
        Due.is(1, "by order 2", () -> bench.led(bench.point(0, -1, 0)));
        isCubic(bench, 1, -15, 22, 0);
        Due.is(2, "by order 3", () -> bench.led(bench.point(0, 0, 1)));
        isCubic(bench, 2, 0, -27, 0);
        Due.is(2, "by its mirror", () -> bench.led(bench.point(0, 0, -1)));
        CubicBench fraction = Made.whole(0, -2);
        int twice = fraction.times(fraction.point(0, 3, 5), 2);
        Due.is(-1, "by a fraction", () -> fraction.led(twice));
    }

    private static void ordersOfRestsThatLead() {
        CubicBench bench = Made.rests(1, 1, 23);
        int[] due = {1, 28, 28, 28, 28, 28, 28, 2, 7, 7, 14, 14, 14, 14, 28, 28, 4, 4, 14, 14, 7, 7, 7, 7, 28, 28, 28, 28};
        for (int k = 0; k < due.length; k++) {
            int p = bench.list(1, k);
            Due.is(due[k] == 2 ? 2 : -1, "led by " + k + ", order " + due[k], () -> bench.led(p));
        }
        CubicBench threes = Made.rests(0, 2, 7);
        for (int k = 1; k < 9; k++) {
            int p = threes.list(1, k);
            Due.is(1, "led by order 3", () -> threes.led(p) >= 1 ? 1 : 0);
        }
        Due.is(-1, "led by far", () -> threes.led(threes.list(1, 0)));
        Due.is(1, "by 0, 3 it is led to itself: 2 - 28 * 9 is 2 by 7", () -> threes.led(threes.point(1, 0, 3)));
    }

    /** Every point of ORDER 2 or 3 by the least primes leads: never is the other one's WORTH 0. */
    private static void everyLedOfSmallRests() {
        for (int p : new int[] {5, 7, 11, 13}) {
            for (int a = 0; a < p; a++) {
                for (int b = 0; b < p; b++) {
                    if ((4 * a * a * a + 27 * b * b) % p != 0) {
                        everyLed(a, b, p);
                    }
                }
            }
        }
    }

    private static void everyLed(int a, int b, int p) {
        CubicBench bench = new CubicBench();
        int c = bench.rest(bench.cubic(a, b), p);
        for (int x = 0; x < p; x++) {
            for (int y = 0; y < p; y++) {
                if ((y * y - x * x * x - a * x - b) % p != 0) {
                    continue;
                }
                int point = bench.point(c, x, y);
                int order = bench.order(point);
                int g = 3 * x * x + a;
                int v = order == 2 ? g : 2 * g;
                int u = order == 2 ? 0 : 4 * y * y;
                String name = "led by " + x + ", " + y + " of " + a + ", " + b + " by " + p;
                if (order != 2 && order != 3) {
                    Due.is(-1, name, () -> bench.led(point));
                } else {
                    int led = bench.led(point);
                    Due.is(1, name, () -> led >= 0 ? 1 : 0);
                    isCubic(bench, led, Math.floorMod(a - 5 * v, p), Math.floorMod(b - 7 * (u + x * v), p), p);
                }
            }
        }
    }

    /** a, b, x, y; the other one's a, b, each at 10,000 or as near as any comes to it. */
    private static void widestLed() {
        int[][] rows = {{2500, 0, 0, 0, -10000, 0}, {-2500, 0, 0, 0, 10000, 0}, {-400, -3000, -10, 0, 100, -10000},
            {-636, -1264, -2, 0, 2484, -10000}, {614, -1236, 2, 0, -2516, -10000}, {-150, -500, -10, 0, -900, 10000},
            {614, 1236, -2, 0, -2516, 10000}, {-636, 1264, 2, 0, 2484, 10000}, {0, 361, 0, 19, 0, -9747}, {-468, 3897, 12, 3, -108, 9693},
            {-468, 3897, 12, -3, -108, 9693}};
        for (int[] row : rows) {
            CubicBench bench = Made.whole(row[0], row[1]);
            int p = bench.point(0, row[2], row[3]);
            Due.is(1, "led to " + row[4] + ", " + row[5], () -> bench.led(p));
            isCubic(bench, 1, row[4], row[5], 0);
            Due.is(1, "through to it", () -> bench.told(bench.through(p, p), 0));
        }
    }

    /** "-2: the other one's a or b is beyond 10,000", one of both alone, above and below. */
    private static void tooWideLed() {
        int[][] rows = {{2501, 0, 0, 0}, {-2501, 0, 0, 0}, {-1253, -1252, -1, 0}, {392, -1203, 3, 0}, {392, 1203, -3, 0}, {-1253, 1252, 1, 0},
            {-177, 1129, 3, 25}, {63, 9, 3, 15}, {63, 9, 3, -15}, {-480, 4048, 12, 4}, {0, 400, 0, 20}, {0, 10000, 0, 100}, {-10000, 0, 100, 0},
            {-10000, 0, -100, 0}, {-10000, 0, 0, 0}, {10000, 0, 0, 0}};
        for (int[] row : rows) {
            CubicBench bench = Made.whole(row[0], row[1]);
            int p = bench.point(0, row[2], row[3]);
            int far = bench.far(0);
            String name = row[2] + ", " + row[3] + " of " + row[0] + ", " + row[1];
            Due.is(row[3] == 0 ? 2 : 3, "order of " + name, () -> bench.order(p));
            Due.is(-2, "led by " + name, () -> bench.led(p));
            Due.is(-2, "through by " + name, () -> bench.through(p, far));
            Due.is(-2, "through by and of " + name, () -> bench.through(p, p));
            Due.is(1, "no cubic more", () -> bench.counted(0));
            Due.is(2, "no point more", () -> bench.counted(1));
        }
    }

    /** a and b of RESTS are rests, so 10,000 is no edge of theirs. */
    private static void restsAreNotTooWide() {
        CubicBench bench = Made.rests(-10000, 0, GREATEST);
        Due.is(2, "led", () -> bench.led(bench.point(1, 0, 0)));
        isCubic(bench, 2, 40000, 0, GREATEST);
        Due.is(3, "led by 100, 0", () -> bench.led(bench.point(1, 100, 0)));
        isCubic(bench, 3, GREATEST - 110000, Math.floorMod(-7 * 100 * 20000, GREATEST), GREATEST);
        Due.is(2, "the order of what 100, 0 is led to", () -> bench.order(bench.through(0, 1)));
    }

    private static void ledTellsNoPoints() {
        CubicBench bench = Made.whole(0, 1);
        int two = bench.point(0, -1, 0);
        bench.led(two);
        bench.led(two);
        Due.is(1, "one point", () -> bench.counted(1));
        Due.is(2, "two cubics", () -> bench.counted(0));
    }

    private static void ledIsToldAgain() {
        CubicBench bench = Made.whole(-15, 22);
        bench.cubic(0, 1);
        int two = bench.point(1, -1, 0);
        Due.is(0, "one that is there already", () -> bench.led(two));
        bench.rest(0, 7);
        bench.rest(1, 7);
        int restTwo = bench.point(3, 6, 0);
        Due.is(2, "of rests", () -> bench.led(restTwo));
        Due.is(4, "no cubic more", () -> bench.counted(0));
    }

    /** "FAR, if Q is FAR, P, or P's MIRROR" */
    private static void throughOfFarAndItself() {
        CubicBench bench = Made.whole(0, 1);
        int two = bench.point(0, -1, 0);
        int three = bench.point(0, 0, 1);
        int minus = bench.point(0, 0, -1);
        int far = bench.far(0);
        Due.is(4, "by order 2, of itself", () -> bench.through(two, two));
        Due.is(4, "by order 2, of far", () -> bench.through(two, far));
        Due.is(1, "that is far", () -> bench.told(4, 1));
        Due.is(1, "of the cubic led to", () -> bench.told(4, 0));
        Due.is(5, "by order 3, of its mirror", () -> bench.through(three, minus));
        Due.is(5, "by order 3, of itself", () -> bench.through(three, three));
        Due.is(5, "by order 3, of far", () -> bench.through(three, far));
        Due.is(5, "by the mirror, of itself", () -> bench.through(minus, minus));
        Due.is(5, "by the mirror, of the other", () -> bench.through(minus, three));
        Due.is(1, "that is far", () -> bench.told(5, 1));
        Due.is(2, "of the other cubic led to", () -> bench.told(5, 0));
    }

    private static void throughOfRestsOfFarAndItself() {
        CubicBench bench = Made.rests(0, 1, 7);
        int two = bench.point(1, 3, 0);
        int three = bench.point(1, 0, 6);
        int far = bench.far(1);
        int led = bench.led(two);
        int ledByThree = bench.led(three);
        int farLed = bench.far(led);
        int farLedByThree = bench.far(ledByThree);
        Due.is(farLed, "by order 2, of itself", () -> bench.through(two, two));
        Due.is(farLed, "by order 2, of far", () -> bench.through(two, far));
        Due.is(farLedByThree, "by order 3, of itself", () -> bench.through(three, three));
        Due.is(farLedByThree, "by order 3, of its mirror", () -> bench.through(three, bench.mirror(three)));
        Due.is(farLedByThree, "by order 3, of far", () -> bench.through(three, far));
        int other = bench.through(two, bench.point(1, 5, 0));
        Due.is(0, "another of order 2 is not led to far", () -> bench.told(other, 1));
        Due.is(2, "but to one of order 2", () -> bench.order(other));
    }

    /** "-1, -2 as led()", whatever Q is. */
    private static void throughAsLed() {
        CubicBench bench = Made.whole(0, 1);
        bench.cubic(-2501, 0);
        int six = bench.point(0, 2, 3);
        int two = bench.point(0, -1, 0);
        int wide = bench.point(1, 0, 0);
        int far = bench.far(0);
        int farToo = bench.far(1);
        for (int q : new int[] {six, two, wide, far, farToo}) {
            Due.is(-1, "by order 6 of " + q, () -> bench.through(six, q));
            Due.is(-1, "by far of " + q, () -> bench.through(far, q));
            Due.is(-2, "beyond 10,000 of " + q, () -> bench.through(wide, q));
        }
        Due.is(2, "no cubic more", () -> bench.counted(0));
        Due.is(5, "no point more", () -> bench.counted(1));
    }

    /** "-3: they are not of one CUBIC" */
    private static void throughOfAnotherCubic() {
        CubicBench bench = Made.rests(0, 1, 7);
        bench.rest(0, 13);
        bench.cubic(-1, 0);
        int[] twos = {bench.point(0, -1, 0), bench.point(1, 6, 0), bench.point(2, 12, 0), bench.point(3, 0, 0)};
        int[] fars = {bench.far(0), bench.far(1), bench.far(2), bench.far(3)};
        for (int c = 0; c < 4; c++) {
            for (int d = 0; d < 4; d++) {
                int by = twos[c];
                int of = twos[d];
                int far = fars[d];
                if (c != d) {
                    Due.is(-3, "two of " + c + " and two of " + d, () -> bench.through(by, of));
                    Due.is(-3, "two of " + c + " and far of " + d, () -> bench.through(by, far));
                }
            }
        }
        Due.is(4, "no cubic more", () -> bench.counted(0));
        Due.is(8, "no point more", () -> bench.counted(1));
        int led = bench.led(twos[0]);
        int farLed = bench.far(led);
        Due.is(-3, "and far of the cubic led to", () -> bench.through(twos[0], farLed));
        Due.is(farLed, "and far of its own", () -> bench.through(twos[0], fars[0]));
    }

    /** n times one point and m times another, added; m 0 for one alone. */
    private static int combined(CubicBench bench, int[] row) {
        int first = bench.times(bench.point(0, row[4], row[5]), row[6]);
        return row[9] == 0 ? first : bench.add(first, bench.times(bench.point(0, row[7], row[8]), row[9]));
    }

    private static String digits(CubicBench bench, int p) {
        int bytes = bench.print(p, 1);
        int stroke = bytes;
        for (int k = 0; k < bytes; k++) {
            stroke = bench.octet(k) == '/' ? k : stroke;
        }
        int minus = bench.octet(0) == '-' ? 1 : 0;
        return (stroke - minus) + " " + (bytes - stroke - 1);
    }

    /** a, b, P, one point and how often, another and how often, and the digits above and below of y that comes. */
    private static void hundredDigits() {
        int[][] rows = {{-51, -14, -7, 0, -1, 6, 10, 0, 0, 0, 100, 98}, {-50, -125, -5, 0, 15, 50, 9, 0, 0, 0, 100, 99},
            {-20, -352, 8, 0, 58, 440, 5, 0, 0, 0, 100, 100}, {-37, -84, -3, 0, 95, 924, 5, 0, 0, 0, 100, 100},
            {38, 141, -3, 0, 2, 15, 4, 46, 315, -5, 99, 100}, {38, 141, -3, 0, 10, 39, 4, 46, 315, 5, 99, 100},
            {0, 225, 0, 15, -6, 3, 2, 4, 17, -6, 100, 98}, {0, 225, 0, 15, -6, 3, 4, -5, 10, 6, 100, 98}};
        for (int[] row : rows) {
            CubicBench bench = Made.whole(row[0], row[1]);
            int by = bench.point(0, row[2], row[3]);
            int of = combined(bench, row);
            int on = bench.through(by, of);
            String name = "through of " + row[0] + ", " + row[1];
            Due.is(1, name + " tells a point", () -> on >= 0 ? 1 : 0);
            Due.same(row[10] + " " + row[11], on < 0 ? "none" : digits(bench, on), name + ": digits");
            Due.is(bench.mirror(on), name + ": of the mirror", () -> bench.through(by, bench.mirror(of)));
        }
    }

    /** "-4: SPENT (so, too, of fractions that come)": by what is above alone, by what is below alone. */
    private static void hundredAndOneDigits() {
        int[][] rows = {{-51, 130, 5, 0, 9, 20, 8, 0, 0, 0}, {-41, -80, -5, 0, 27, 136, 5, 0, 0, 0}, {-51, 130, 5, 0, 11, 30, 8, 0, 0, 0},
            {-41, 100, 4, 0, 3, 2, 10, 0, 0, 0}, {-66, 16, 8, 0, 0, 4, 5, 15, 49, -2}, {-66, 16, 8, 0, -1, 9, 2, 0, 4, 7},
            {0, 9, 0, 3, -2, 1, 8, 0, 0, 0}};
        for (int[] row : rows) {
            CubicBench bench = Made.whole(row[0], row[1]);
            int by = bench.point(0, row[2], row[3]);
            int of = combined(bench, row);
            int minus = bench.mirror(of);
            int points = bench.counted(1);
            String name = "through of " + row[0] + ", " + row[1];
            Due.is(1, name + ": there is such a point", () -> of >= 0 ? 1 : 0);
            Due.is(-4, name, () -> bench.through(by, of));
            Due.is(-4, name + ": of the mirror", () -> bench.through(by, minus));
            Due.is(1, name + ": no cubic more", () -> bench.counted(0));
            Due.is(points, name + ": no point more", () -> bench.counted(1));
        }
    }

    private static void throughKeepsBoth() {
        CubicBench bench = Made.whole(0, 1);
        int two = bench.point(0, -1, 0);
        int six = bench.point(0, 2, 3);
        Due.is(2, "a point more", () -> bench.through(two, six));
        Due.is(2, "a cubic more", () -> bench.counted(0));
        isCubic(bench, 1, -15, 22, 0);
        Due.is(2, "is 3, 2 on it", () -> bench.point(1, 3, 2));
        Due.is(1, "led() tells that cubic", () -> bench.led(two));
        Due.is(2, "no more of them", () -> bench.counted(0));
    }

    /** Sums are led to sums; two points of RESTS, or three, go to each one that is met at all. */
    private static void allPointsThrough() {
        for (int[] row : new int[][] {{0, 1, 7, 3, 0, 2}, {0, 1, 7, 0, 1, 3}, {0, 2, 7, 3, 1, 3}, {-1, 0, 13, 1, 0, 2}}) {
            CubicBench bench = Made.rests(row[0], row[1], row[2]);
            int by = bench.point(1, row[3], row[4]);
            int all = bench.count(1);
            int[] own = new int[all];
            int[] led = new int[all];
            for (int k = 0; k < all; k++) {
                own[k] = bench.list(1, k);
                led[k] = bench.through(by, own[k]);
            }
            for (int k = 0; k < all; k++) {
                int met = 0;
                for (int i = 0; i < all; i++) {
                    met += led[i] == led[k] ? 1 : 0;
                }
                int times = met;
                Due.is(row[5], "met so often", () -> times);
                int sum = bench.add(own[k], own[all - 1]);
                int ledSum = bench.add(led[k], led[all - 1]);
                Due.is(ledSum, "sum of " + k, () -> bench.through(by, sum));
            }
        }
    }
}
