/** 40 cubics and 400 points: every call that would give one more throws, and tells those that there are. */
public final class LimitsTest {
    public static void main(String[] args) {
        cubics();
        points();
        throughNeedsBoth();
        Due.end();
    }

    private static void cubics() {
        CubicBench bench = new CubicBench();
        bench.cubic(0, 1);
        bench.rest(0, 7);
        bench.point(0, -1, 0);
        bench.point(0, 2, 3);
        for (int b = 2; b < 40; b++) {
            int k = b;
            Due.is(b, "cubic " + b, () -> bench.cubic(0, k));
        }
        Due.is(40, "forty", () -> bench.counted(0));
        Due.state("cubic", () -> bench.cubic(0, 40));
        Due.state("rest", () -> bench.rest(0, 11));
        Due.state("turned", () -> bench.turned(1));
        Due.state("led", () -> bench.led(0));
        Due.state("through", () -> bench.through(0, 1));
        Due.is(39, "one that there is", () -> bench.cubic(0, 39));
        Due.is(1, "rest that there is", () -> bench.rest(0, 7));
        Due.is(-1, "worth 0", () -> bench.cubic(-3, 2));
        Due.is(-1, "worth 0 by 7", () -> bench.rest(7, 7));
        Due.argument("a beyond", () -> bench.cubic(10001, 0));
        Due.argument("p no prime", () -> bench.rest(0, 9));
        Due.argument("turned whole", () -> bench.turned(0));
        Due.is(-1, "led by order 6", () -> bench.led(1));
        Due.is(40, "still forty", () -> bench.counted(0));
        Due.is(2, "still two points", () -> bench.counted(1));
    }

    private static void points() {
        CubicBench bench = new CubicBench();
        bench.cubic(0, 1);
        bench.rest(0, 1009);
        bench.cubic(-11, 15);
        bench.point(0, 2, 3);
        bench.point(2, 2, 1);
        int first = bench.times(1, 13);
        bench.cubic(-25, 0);
        bench.rest(0, 7);
        int by = bench.point(3, 0, 0);
        int of = bench.point(3, -4, 6);
        Due.is(5, "led ahead", () -> bench.led(by));
        for (int k = 0; bench.counted(1) < 400; k++) {
            bench.list(1, k);
        }
        int one = bench.list(1, 1);
        Due.is(bench.list(1, 2), "mirror that there is", () -> bench.mirror(one));
        Due.is(400, "four hundred", () -> bench.counted(1));
        Due.state("far", () -> bench.far(0));
        Due.state("point", () -> bench.point(0, 0, 1));
        Due.state("point of rests", () -> bench.point(4, 0, 1));
        Due.state("add", () -> bench.add(0, 0));
        Due.state("mirror", () -> bench.mirror(0));
        Due.state("times", () -> bench.times(1, 2));
        Due.state("times below", () -> bench.times(1, -13));
        Due.state("backAt", () -> bench.backAt(0, 0));
        Due.state("list", () -> bench.list(1, bench.count(1) - 1));
        Due.state("group", () -> bench.group(4, 2));
        Due.state("second maker", () -> bench.group(4, 3));
        Due.state("through", () -> bench.through(by, of));
        Due.is(0, "point that there is", () -> bench.point(0, 2, 3));
        Due.is(first, "times that there is", () -> bench.times(1, 13));
        Due.is(5, "backAt that there is", () -> bench.back(0) - 1);
        Due.is(0, "backAt that there is", () -> bench.backAt(0, 5));
        Due.is(6, "group without points", () -> bench.group(4, 0));
        Due.is(-2, "spent", () -> bench.times(1, 20));
        Due.is(-1, "not on it", () -> bench.point(0, 1, 1));
        Due.is(-1, "not of one cubic", () -> bench.add(0, 1));
        Due.is(-1, "backAt without one", () -> bench.backAt(0, 6));
        Due.is(-1, "list without one", () -> bench.list(1, -1));
        Due.argument("times 21", () -> bench.times(1, 21));
        Due.argument("group 4", () -> bench.group(4, 4));
        Due.argument("point too wide", () -> bench.point(0, 1000001, 0));
        Due.is(6, "a cubic more", () -> bench.cubic(7, 7));
        Due.is(400, "still four hundred", () -> bench.counted(1));
    }

    /** Without room for the point, the cubic that it would lie on is not kept either. */
    private static void throughNeedsBoth() {
        CubicBench bench = new CubicBench();
        bench.cubic(0, 1);
        bench.rest(0, 1009);
        bench.point(0, -1, 0);
        for (int k = 0; bench.counted(1) < 400; k++) {
            bench.list(1, k);
        }
        Due.state("through to a new cubic", () -> bench.through(0, 0));
        Due.is(2, "no cubic more", () -> bench.counted(0));
        Due.is(2, "but led() may", () -> bench.led(0));
    }
}
