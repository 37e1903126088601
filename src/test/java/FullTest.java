import java.util.LinkedHashMap;
import java.util.Map;

/**
 * "CUBICS .. 40 at most", "POINTS .. 400 at most", "A call that would give one more CUBIC or POINT
 * than there may be: IllegalStateException." For every call that gives one: the last that there is
 * room for, the first that there is none for, and one that is there already.
 */
public final class FullTest {
    interface Gives {
        int run(CubicBench bench);
    }

    private static final int CUBICS = 40;
    private static final int POINTS = 400;

    // What furnished() gives: cubics, and points of them.
    private static final int WHOLE = 0;
    private static final int RESTS = 1;
    private static final int LINE = 2;
    private static final int ORDER_TWO = 0;
    private static final int ORDER_SIX = 1;
    private static final int ORDER_THREE = 2;
    private static final int REST_TWO = 3;
    private static final int REST_SIX = 4;
    private static final int ENDLESS = 5;

    public static void main(String[] args) {
        for (Map.Entry<String, Gives> call : givingCubics().entrySet()) {
            lastCubic(call.getKey(), call.getValue());
            oneCubicTooMany(call.getKey(), call.getValue());
            cubicThatIsThere(call.getKey(), call.getValue());
        }
        for (Map.Entry<String, Gives> call : givingPoints().entrySet()) {
            lastPoint(call.getKey(), call.getValue());
            onePointTooMany(call.getKey(), call.getValue());
            pointThatIsThere(call.getKey(), call.getValue());
        }
        throughToNewCubic();
        bothFull();
        otherAnswersOfFullCubics();
        otherAnswersOfFullPoints();
        answersWithoutNewOnes();
        stateBehindTooMany();
        Due.end();
    }

    private static CubicBench furnished() {
        CubicBench bench = new CubicBench();
        bench.cubic(0, 1);
        bench.rest(WHOLE, 7);
        bench.cubic(0, -2);
        bench.point(WHOLE, -1, 0);
        bench.point(WHOLE, 2, 3);
        bench.point(WHOLE, 0, 1);
        bench.point(RESTS, 3, 0);
        bench.point(RESTS, 1, 3);
        bench.point(LINE, 3, 5);
        return bench;
    }

    private static Map<String, Gives> givingCubics() {
        Map<String, Gives> calls = new LinkedHashMap<>();
        calls.put("cubic", bench -> bench.cubic(-10000, 10000));
        calls.put("rest", bench -> bench.rest(WHOLE, 11));
        calls.put("turned", bench -> bench.turned(RESTS));
        calls.put("led by order 2", bench -> bench.led(ORDER_TWO));
        calls.put("led by order 3", bench -> bench.led(ORDER_THREE));
        calls.put("led of rests", bench -> bench.led(REST_TWO));
        calls.put("through", bench -> bench.told(bench.through(ORDER_TWO, ORDER_SIX), 0));
        calls.put("through to FAR", bench -> bench.told(bench.through(ORDER_THREE, ORDER_THREE), 0));
        calls.put("through of rests", bench -> bench.told(bench.through(REST_TWO, REST_SIX), 0));
        return calls;
    }

    private static void lastCubic(String name, Gives call) {
        CubicBench bench = furnished();
        Made.fillCubics(bench, CUBICS - 1);
        Due.is(CUBICS - 1, name + ": the last cubic", () -> call.run(bench));
        Due.is(CUBICS, name + ": then there are 40", () -> bench.counted(0));
        Due.is(CUBICS - 1, name + ": the last cubic again", () -> call.run(bench));
    }

    private static void oneCubicTooMany(String name, Gives call) {
        CubicBench bench = furnished();
        Made.fillCubics(bench, CUBICS);
        int points = bench.counted(1);
        Due.state(name + ": one cubic too many", () -> call.run(bench));
        Due.state(name + ": and again", () -> call.run(bench));
        Due.is(CUBICS, name + ": there are 40", () -> bench.counted(0));
        Due.is(points, name + ": no point more", () -> bench.counted(1));
        Due.index(name + ": there is no 40", () -> bench.about(CUBICS, 0));
        Due.is(0, name + ": the first one is told again", () -> bench.cubic(0, 1));
    }

    private static void cubicThatIsThere(String name, Gives call) {
        CubicBench bench = furnished();
        int number = call.run(bench);
        Made.fillCubics(bench, CUBICS);
        Due.is(number, name + ": one that is there", () -> call.run(bench));
        Due.is(CUBICS, name + ": still 40", () -> bench.counted(0));
    }

    private static Map<String, Gives> givingPoints() {
        Map<String, Gives> calls = new LinkedHashMap<>();
        calls.put("far", bench -> bench.far(WHOLE));
        calls.put("far of rests", bench -> bench.far(RESTS));
        calls.put("point", bench -> bench.point(WHOLE, 0, -1));
        calls.put("point of rests", bench -> bench.point(RESTS, 0, 6));
        calls.put("add", bench -> bench.add(ENDLESS, ENDLESS));
        calls.put("add to FAR", bench -> bench.add(ORDER_TWO, ORDER_TWO));
        calls.put("add of rests", bench -> bench.add(REST_SIX, REST_TWO));
        calls.put("add of rests to FAR", bench -> bench.add(REST_TWO, REST_TWO));
        calls.put("mirror", bench -> bench.mirror(ENDLESS));
        calls.put("mirror of rests", bench -> bench.mirror(REST_SIX));
        calls.put("times", bench -> bench.times(ENDLESS, 5));
        calls.put("times below 0", bench -> bench.times(ENDLESS, -3));
        calls.put("times 0", bench -> bench.times(ENDLESS, 0));
        calls.put("times of rests", bench -> bench.times(REST_SIX, Integer.MIN_VALUE));
        calls.put("times 0 of rests", bench -> bench.times(REST_SIX, 0));
        calls.put("backAt", bench -> bench.backAt(WHOLE, 4));
        calls.put("backAt FAR", bench -> bench.backAt(WHOLE, 0));
        calls.put("list", bench -> bench.list(RESTS, 11));
        calls.put("list FAR", bench -> bench.list(RESTS, 0));
        calls.put("first MAKER", bench -> bench.group(bench.rest(LINE, 5), 2));
        calls.put("second MAKER", bench -> bench.group(RESTS, 3));
        calls.put("second MAKER, FAR", bench -> bench.group(bench.rest(LINE, 5), 3));
        calls.put("through", bench -> bench.through(ORDER_TWO, ORDER_SIX));
        calls.put("through to FAR", bench -> bench.through(ORDER_TWO, ORDER_TWO));
        calls.put("through of rests", bench -> bench.through(REST_TWO, REST_SIX));
        calls.put("through of rests to FAR", bench -> bench.through(REST_TWO, REST_TWO));
        return calls;
    }

    /** The cubics that some of those calls need are made ahead, so that only a point may be missing. */
    private static CubicBench furnishedForPoints() {
        CubicBench bench = furnished();
        bench.rest(LINE, 5);
        bench.led(ORDER_TWO);
        bench.led(REST_TWO);
        return bench;
    }

    private static void lastPoint(String name, Gives call) {
        CubicBench bench = furnishedForPoints();
        Made.fillPoints(bench, POINTS - 1);
        Due.is(POINTS - 1, name + ": the last point", () -> call.run(bench));
        Due.is(POINTS, name + ": then there are 400", () -> bench.counted(1));
        Due.is(POINTS - 1, name + ": the last point again", () -> call.run(bench));
    }

    private static void onePointTooMany(String name, Gives call) {
        CubicBench bench = furnishedForPoints();
        Made.fillPoints(bench, POINTS);
        int cubics = bench.counted(0);
        Due.state(name + ": one point too many", () -> call.run(bench));
        Due.state(name + ": and again", () -> call.run(bench));
        Due.is(POINTS, name + ": there are 400", () -> bench.counted(1));
        Due.is(cubics, name + ": no cubic more", () -> bench.counted(0));
        Due.index(name + ": there is no 400", () -> bench.told(POINTS, 0));
        Due.is(ORDER_SIX, name + ": an old one is told again", () -> bench.point(WHOLE, 2, 3));
    }

    private static void pointThatIsThere(String name, Gives call) {
        CubicBench bench = furnishedForPoints();
        int number = call.run(bench);
        Made.fillPoints(bench, POINTS);
        Due.is(number, name + ": one that is there", () -> call.run(bench));
        Due.is(POINTS, name + ": still 400", () -> bench.counted(1));
    }

    /** Without room for the point, the cubic that it would lie on is not kept either. */
    private static void throughToNewCubic() {
        CubicBench bench = furnished();
        Made.fillPoints(bench, POINTS);
        int cubics = bench.counted(0);
        Due.state("through to a new cubic", () -> bench.through(ORDER_TWO, ORDER_SIX));
        Due.state("through of rests to a new cubic", () -> bench.through(REST_TWO, REST_SIX));
        Due.is(cubics, "no cubic more", () -> bench.counted(0));
        Due.is(cubics, "led() alone may", () -> bench.led(ORDER_TWO));
    }

    private static void bothFull() {
        CubicBench bench = furnished();
        int on = bench.through(ORDER_TWO, ORDER_SIX);
        Made.fillPoints(bench, POINTS);
        Made.fillCubics(bench, CUBICS);
        Due.is(on, "through that is there", () -> bench.through(ORDER_TWO, ORDER_SIX));
        Due.state("through, new point", () -> bench.through(ORDER_TWO, ORDER_THREE));
        Due.state("through, new cubic", () -> bench.through(ORDER_THREE, ORDER_SIX));
        Due.state("cubic", () -> bench.cubic(1, 1));
        Due.state("far", () -> bench.far(LINE));
        Due.is(CUBICS, "40", () -> bench.counted(0));
        Due.is(POINTS, "400", () -> bench.counted(1));
    }

    /** A call that gives no cubic answers as ever. */
    private static void otherAnswersOfFullCubics() {
        CubicBench bench = furnished();
        int seven = bench.cubic(0, 7);
        bench.cubic(-2501, 0);
        int wide = bench.point(seven + 1, 0, 0);
        Made.fillCubics(bench, CUBICS);
        Due.is(-1, "worth 0", () -> bench.cubic(-3, 2));
        Due.is(-1, "worth 0 by 7", () -> bench.rest(seven, 7));
        Due.argument("a beyond", () -> bench.cubic(10001, 0));
        Due.argument("no prime", () -> bench.rest(WHOLE, 9));
        Due.argument("rest of rests", () -> bench.rest(RESTS, 11));
        Due.argument("turned of a whole one", () -> bench.turned(WHOLE));
        Due.index("rest of none", () -> bench.rest(CUBICS, 11));
        Due.index("turned of none", () -> bench.turned(-1));
        Due.index("led of none", () -> bench.led(99));
        Due.is(-1, "led by order 6", () -> bench.led(ORDER_SIX));
        Due.is(-2, "led beyond 10,000", () -> bench.led(wide));
        Due.is(-1, "through by order 6", () -> bench.through(ORDER_SIX, ORDER_TWO));
        Due.is(-2, "through beyond 10,000", () -> bench.through(wide, wide));
        Due.is(-3, "through of another cubic's point", () -> bench.through(ORDER_TWO, ENDLESS));
        Due.is(7, "a point more", () -> bench.far(WHOLE));
        Due.is(CUBICS, "40", () -> bench.counted(0));
    }

    private static void otherAnswersOfFullPoints() {
        CubicBench bench = furnished();
        int eight = bench.times(ENDLESS, 8);
        bench.led(ORDER_TWO);
        Made.fillPoints(bench, POINTS);
        Due.is(-1, "not on it", () -> bench.point(WHOLE, 1, 1));
        Due.argument("too wide", () -> bench.point(WHOLE, 1000001, 0));
        Due.argument("x is p", () -> bench.point(RESTS, 7, 0));
        Due.is(-1, "not of one cubic", () -> bench.add(ORDER_TWO, REST_TWO));
        Due.is(-2, "add spent", () -> bench.add(eight, eight));
        Due.is(-2, "times spent", () -> bench.times(ENDLESS, 20));
        Due.argument("times 21", () -> bench.times(ENDLESS, 21));
        Due.is(-1, "backAt without one", () -> bench.backAt(WHOLE, 6));
        Due.argument("backAt of rests", () -> bench.backAt(RESTS, 0));
        Due.is(-1, "list without one", () -> bench.list(RESTS, 12));
        Due.argument("list of a whole one", () -> bench.list(WHOLE, 0));
        Due.argument("group 4", () -> bench.group(RESTS, 4));
        Due.is(6, "n", () -> bench.group(RESTS, 0));
        Due.is(2, "m", () -> bench.group(RESTS, 1));
        Due.is(-1, "through by order 6", () -> bench.through(ORDER_SIX, ORDER_TWO));
        Due.is(-3, "through of another cubic's point", () -> bench.through(ORDER_TWO, ENDLESS));
        Due.index("far of none", () -> bench.far(-1));
        Due.index("add of none", () -> bench.add(0, POINTS));
        Due.is(POINTS, "400", () -> bench.counted(1));
    }

    /** Calls that give no number of a cubic or point need no room for one. */
    private static void answersWithoutNewOnes() {
        CubicBench bench = furnished();
        Made.fillPoints(bench, POINTS);
        Made.fillCubics(bench, CUBICS);
        Due.is(6, "back", () -> bench.back(WHOLE));
        Due.is(3, "search", () -> bench.search(WHOLE, 2));
        Due.is(12, "count", () -> bench.count(RESTS));
        Due.is(48, "over 2", () -> bench.over(RESTS, 2));
        Due.is(6, "order", () -> bench.order(REST_SIX));
        Due.is(1, "pair with itself", () -> bench.pair(REST_SIX, REST_SIX, 6));
        Due.is(4, "polynomial", () -> bench.polynomial(RESTS, 3));
        Due.is(2, "print", () -> bench.print(ORDER_TWO, 0));
        Due.is(CUBICS, "40", () -> bench.counted(0));
        Due.is(POINTS, "400", () -> bench.counted(1));
    }

    /** The PAGE, the latest SEARCH and the latest POLYNOMIAL outlast every call that is refused for want of room. */
    private static void stateBehindTooMany() {
        CubicBench bench = furnished();
        bench.search(LINE, 129);
        bench.polynomial(RESTS, 3);
        bench.print(ENDLESS, 1);
        Made.fillPoints(bench, POINTS);
        Made.fillCubics(bench, CUBICS);
        for (Map.Entry<String, Gives> call : givingCubics().entrySet()) {
            Due.state(call.getKey(), () -> call.getValue().run(bench));
        }
        Due.state("far", () -> bench.far(WHOLE));
        Due.state("point", () -> bench.point(WHOLE, 0, -1));
        Due.state("add", () -> bench.add(ENDLESS, ENDLESS));
        Due.state("mirror", () -> bench.mirror(ENDLESS));
        Due.state("times", () -> bench.times(ENDLESS, 5));
        Due.state("backAt", () -> bench.backAt(WHOLE, 4));
        Due.state("list", () -> bench.list(RESTS, 11));
        Due.state("group", () -> bench.group(RESTS, 3));
        Due.text("5", "the page stays", bench);
        Due.is(129, "the search stays", () -> bench.found(1, 0));
        Due.index("and has no more", () -> bench.found(2, 0));
        Due.is(3, "the polynomial stays", () -> bench.coefficient(4));
        Due.is(0, "and its root", () -> bench.root(0));
        Due.is(CUBICS, "40", () -> bench.counted(0));
        Due.is(POINTS, "400", () -> bench.counted(1));
        Due.is(9000 + CUBICS - 1, "a of the last cubic", () -> bench.about(CUBICS - 1, 0));
        Due.is(2, "order of a point", () -> bench.order(REST_TWO));
    }
}
