/** Promises 26 and 27: led, through. */
public final class LeadsTest {
    public static void main(String[] args) {
        ledByTwoAndThree();
        notLed();
        ledToTheEdge();
        throughByTwo();
        throughByThree();
        throughSpent();
        rests();
        refused();
        Due.end();
    }

    private static CubicBench withCubic(int a, int b) {
        CubicBench bench = new CubicBench();
        bench.cubic(a, b);
        return bench;
    }

    private static void isCubic(CubicBench bench, int c, int a, int b) {
        Due.is(a, "a of " + c, () -> bench.about(c, 0));
        Due.is(b, "b of " + c, () -> bench.about(c, 1));
    }

    private static void ledByTwoAndThree() {
        CubicBench bench = withCubic(0, 1);
        bench.point(0, -1, 0);
        bench.point(0, 0, 1);
        bench.point(0, 0, -1);
        Due.is(1, "by order 2", () -> bench.led(0));
        isCubic(bench, 1, -15, 22);
        Due.is(2, "by order 3", () -> bench.led(1));
        isCubic(bench, 2, 0, -27);
        Due.is(2, "by its mirror", () -> bench.led(2));
        Due.is(1, "by order 2 again", () -> bench.led(0));
        Due.is(3, "no points more", () -> bench.counted(1));
        bench.cubic(4, 0);
        bench.point(3, 0, 0);
        Due.is(4, "a 4 - 20", () -> bench.led(3));
        isCubic(bench, 4, -16, 0);
        bench.point(4, 4, 0);
        Due.is(5, "on from there", () -> bench.led(4));
        isCubic(bench, 5, -16 - 5 * 32, -7 * 4 * 32);
    }

    private static void notLed() {
        CubicBench bench = withCubic(0, 1);
        bench.far(0);
        bench.point(0, 2, 3);
        Due.is(-1, "order 1", () -> bench.led(0));
        Due.is(-1, "order 6", () -> bench.led(1));
        bench.cubic(0, -2);
        bench.point(1, 3, 5);
        bench.times(2, 2);
        Due.is(-1, "order 0", () -> bench.led(2));
        Due.is(-1, "a fraction", () -> bench.led(3));
        bench.cubic(-10000, 0);
        bench.point(2, 100, 0);
        bench.point(2, 0, 0);
        Due.is(-2, "a beyond 10,000", () -> bench.led(4));
        Due.is(-2, "a above 10,000", () -> bench.led(5));
        bench.cubic(0, 400);
        bench.point(3, 0, 20);
        Due.is(-2, "b below -10,000", () -> bench.led(6));
        bench.cubic(0, 361);
        bench.point(4, 0, 19);
        Due.is(5, "b 361 - 28 * 361", () -> bench.led(7));
        isCubic(bench, 5, 0, -27 * 361);
        bench.cubic(2500, 0);
        bench.point(6, 0, 0);
        Due.is(2, "a 2500 - 5 * 2500 is -10,000 itself", () -> bench.led(8));
        bench.cubic(2501, 0);
        bench.point(7, 0, 0);
        Due.is(-2, "a -10,004", () -> bench.led(9));
        Due.is(8, "none kept of those", () -> bench.counted(0));
        Due.index("none", () -> bench.led(10));
        Due.index("below", () -> bench.led(-1));
    }

    /** By (x, 0) b becomes -22 x x x - 8 a x: 10,000 itself, and 16 beyond it, above and below. */
    private static void ledToTheEdge() {
        CubicBench bench = withCubic(614, 1236);
        bench.cubic(614, -1236);
        bench.cubic(615, 1238);
        bench.cubic(615, -1238);
        bench.point(0, -2, 0);
        bench.point(1, 2, 0);
        bench.point(2, -2, 0);
        bench.point(3, 2, 0);
        Due.is(4, "b 10,000", () -> bench.led(0));
        isCubic(bench, 4, -2516, 10000);
        Due.is(5, "b -10,000", () -> bench.led(1));
        isCubic(bench, 5, -2516, -10000);
        Due.is(-2, "b 10,016", () -> bench.led(2));
        Due.is(-2, "b -10,016", () -> bench.led(3));
    }

    private static void isPoint(CubicBench bench, int p, String x, String y) {
        bench.print(p, 0);
        Due.text(x, "x of " + p, bench);
        bench.print(p, 1);
        Due.text(y, "y of " + p, bench);
    }

    private static void throughByTwo() {
        CubicBench bench = withCubic(-25, 0);
        bench.point(0, 0, 0);
        bench.point(0, -4, 6);
        Due.is(2, "through", () -> bench.through(0, 1));
        Due.is(1, "of the cubic it leads to", () -> bench.told(2, 0));
        isCubic(bench, 1, 100, 0);
        isPoint(bench, 2, "9/4", "123/8");
        Due.is(2, "again", () -> bench.through(0, 1));
        Due.is(3, "twice", () -> bench.times(1, 2));
        Due.is(4, "through of twice", () -> bench.through(0, 3));
        isPoint(bench, 4, "2307361/242064", "-5079780559/119095488");
        Due.is(4, "is twice of through", () -> bench.times(2, 2));
        Due.is(5, "of itself", () -> bench.through(0, 0));
        Due.is(1, "is far", () -> bench.told(5, 1));
        Due.is(1, "of the other cubic", () -> bench.told(5, 0));
        Due.is(6, "far", () -> bench.far(0));
        Due.is(5, "of far", () -> bench.through(0, 6));
        int other = bench.point(0, 5, 0);
        Due.is(8, "of another of order 2", () -> bench.through(0, other));
        isPoint(bench, 8, "0", "0");
    }

    private static void throughByThree() {
        CubicBench bench = withCubic(0, 225);
        bench.point(0, 0, 15);
        bench.point(0, 4, 17);
        Due.is(2, "through", () -> bench.through(0, 1));
        isCubic(bench, 1, 0, -27 * 225);
        isPoint(bench, 2, "241/4", "-3689/8");
        Due.is(3, "mirror", () -> bench.mirror(0));
        Due.is(2, "by the mirror", () -> bench.through(3, 1));
        Due.is(4, "of itself", () -> bench.through(0, 0));
        Due.is(4, "of its mirror", () -> bench.through(0, 3));
        Due.is(4, "by the mirror of it", () -> bench.through(3, 0));
        Due.is(1, "is far", () -> bench.told(4, 1));
        Due.is(5, "twice", () -> bench.times(1, 2));
        Due.is(6, "through of twice", () -> bench.through(0, 5));
        isPoint(bench, 6, "4123008961/217739536", "-85876547329441/3212964593216");
        CubicBench whole = withCubic(0, 9);
        whole.point(0, 0, 3);
        whole.point(0, -2, 1);
        whole.through(0, 1);
        isPoint(whole, 2, "7", "10");
    }

    /** 7 times (-2, 1) is led to 79 digits, 8 times to 102. */
    private static void throughSpent() {
        CubicBench bench = withCubic(0, 9);
        bench.point(0, 0, 3);
        bench.point(0, -2, 1);
        bench.times(1, 8);
        bench.times(1, 7);
        Due.is(-4, "spent", () -> bench.through(0, 2));
        Due.is(1, "then no cubic is kept", () -> bench.counted(0));
        Due.is(4, "nor a point", () -> bench.counted(1));
        Due.is(4, "not spent", () -> bench.through(0, 3));
        Due.is(2, "then both are", () -> bench.counted(0));
        bench.cubic(-25, 0);
        bench.point(2, 0, 0);
        bench.point(2, -4, 6);
        int six = bench.times(6, 6);
        int seven = bench.times(6, 7);
        Due.is(-4, "spent by order 2", () -> bench.through(5, seven));
        Due.is(9, "not spent by order 2", () -> bench.through(5, six));
    }

    private static void rests() {
        CubicBench bench = withCubic(0, 1);
        bench.rest(0, 1000003);
        int two = bench.point(1, 1000002, 0);
        int three = bench.point(1, 0, 1);
        int six = bench.point(1, 2, 3);
        Due.is(2, "by order 2", () -> bench.led(two));
        isCubic(bench, 2, 1000003 - 15, 22);
        Due.is(3, "by order 3", () -> bench.led(three));
        isCubic(bench, 3, 0, 1000003 - 27);
        Due.is(-1, "by order 6", () -> bench.led(six));
        int on = bench.through(two, six);
        isPoint(bench, on, "3", "2");
        Due.is(3, "its order", () -> bench.order(on));
        int far = bench.through(two, two);
        Due.is(1, "of itself", () -> bench.told(far, 1));
        Due.is(2, "on the other cubic", () -> bench.told(far, 0));
        Due.is(far, "of far", () -> bench.through(two, bench.far(1)));
        int onThree = bench.through(three, six);
        isPoint(bench, onThree, "3", "0");
        int farThree = bench.through(three, bench.mirror(three));
        Due.is(1, "of the mirror", () -> bench.told(farThree, 1));
        Due.is(bench.count(1), "cubics that are led to each other hold as many", () -> bench.count(2));
        Due.is(bench.count(1), "by order 3, too", () -> bench.count(3));
    }

    private static void refused() {
        CubicBench bench = withCubic(0, 1);
        bench.cubic(0, -2);
        bench.point(0, -1, 0);
        bench.point(0, 2, 3);
        bench.point(1, 3, 5);
        Due.is(-3, "not of one cubic", () -> bench.through(0, 2));
        Due.is(2, "then no cubic is kept", () -> bench.counted(0));
        Due.is(-1, "by order 6", () -> bench.through(1, 0));
        Due.is(-1, "by order 6, not of one cubic", () -> bench.through(1, 2));
        bench.cubic(-10000, 0);
        bench.point(2, 100, 0);
        bench.far(2);
        Due.is(-2, "a beyond 10,000", () -> bench.through(3, 4));
        Due.is(-2, "a beyond 10,000, not of one cubic", () -> bench.through(3, 0));
        Due.index("by none", () -> bench.through(5, 0));
        Due.index("of none", () -> bench.through(0, 5));
        Due.index("below", () -> bench.through(0, -1));
        Due.index("of none, by order 6", () -> bench.through(1, 5));
    }
}
