import java.util.LinkedHashMap;
import java.util.Map;

/**
 * "no such CUBIC (so below)" and "no such POINT (so below)": for every call the last number that
 * there is, the first that there is not, the one below 0, and the ends of int.
 */
public final class NumbersTest {
    interface Numbered {
        long run(CubicBench bench, int number);
    }

    private static final Map<String, Numbered> OF_WHOLE = new LinkedHashMap<>();
    private static final Map<String, Numbered> OF_RESTS = new LinkedHashMap<>();
    private static final Map<String, Numbered> OF_CUBIC = new LinkedHashMap<>();
    private static final Map<String, Numbered> OF_POINT = new LinkedHashMap<>();

    public static void main(String[] args) {
        name();
        cubics();
        cubicsOfFull();
        points();
        pointsOfFull();
        eachOfTwoPoints();
        Due.end();
    }

    private static void name() {
        OF_CUBIC.put("about", (bench, c) -> bench.about(c, 4));
        OF_CUBIC.put("far", (bench, c) -> bench.far(c));
        OF_CUBIC.put("point", (bench, c) -> bench.point(c, 0, 1));
        OF_WHOLE.put("rest", (bench, c) -> bench.rest(c, 7));
        OF_WHOLE.put("back", (bench, c) -> bench.back(c));
        OF_WHOLE.put("backAt", (bench, c) -> bench.backAt(c, 0));
        OF_WHOLE.put("search", (bench, c) -> bench.search(c, 3));
        OF_RESTS.put("turned", (bench, c) -> bench.turned(c));
        OF_RESTS.put("count", (bench, c) -> bench.count(c));
        OF_RESTS.put("over", (bench, c) -> bench.over(c, 2));
        OF_RESTS.put("list", (bench, c) -> bench.list(c, 0));
        OF_RESTS.put("group", (bench, c) -> bench.group(c, 2));
        OF_RESTS.put("polynomial", (bench, c) -> bench.polynomial(c, 3));
        OF_POINT.put("add", (bench, p) -> bench.add(p, p));
        OF_POINT.put("mirror", (bench, p) -> bench.mirror(p));
        OF_POINT.put("times", (bench, p) -> bench.times(p, 2));
        OF_POINT.put("order", (bench, p) -> bench.order(p));
        OF_POINT.put("told", (bench, p) -> bench.told(p, 0));
        OF_POINT.put("print", (bench, p) -> bench.print(p, 0));
        OF_POINT.put("pair", (bench, p) -> bench.pair(p, p, 2));
        OF_POINT.put("led", (bench, p) -> bench.led(p));
        OF_POINT.put("through", (bench, p) -> bench.through(p, p));
    }

    private static void refusedBeyond(Map<String, Numbered> calls, CubicBench bench, int held) {
        for (Map.Entry<String, Numbered> call : calls.entrySet()) {
            for (int number : new int[] {-1, -2, held, held + 1, Integer.MIN_VALUE, Integer.MAX_VALUE}) {
                Due.index(call.getKey() + " of " + number + ", of " + held + " in all",
                        () -> call.getValue().run(bench, number));
            }
        }
    }

    /** The answer itself is tested elsewhere; here it must be one. */
    private static void answers(Map<String, Numbered> calls, CubicBench bench, int number) {
        for (Map.Entry<String, Numbered> call : calls.entrySet()) {
            String got = Due.answer(() -> call.getValue().run(bench, number));
            Due.same("false", String.valueOf(got.endsWith("Exception")), call.getKey() + " of the last one");
        }
    }

    private static void cubics() {
        for (Map<String, Numbered> calls : java.util.List.of(OF_CUBIC, OF_WHOLE, OF_RESTS)) {
            refusedBeyond(calls, Made.rests(0, 1, 5), 2);
        }
        CubicBench wholeLast = Made.rests(0, 1, 7);
        wholeLast.cubic(0, 8);
        answers(OF_WHOLE, wholeLast, 2);
        answers(OF_CUBIC, Made.rests(0, 1, 5), 1);
        for (Map.Entry<String, Numbered> call : OF_RESTS.entrySet()) {
            answers(Map.of(call.getKey(), call.getValue()), Made.rests(0, 1, 5), 1);
        }
        answers(OF_CUBIC, Made.whole(0, 1), 0);
        answers(OF_WHOLE, Made.whole(0, 1), 0);
    }

    /** Of 40 cubics the last one has number 39. */
    private static void cubicsOfFull() {
        CubicBench bench = Made.rests(0, 1, 5);
        bench.turned(1);
        Made.fillCubics(bench, 39);
        bench.rest(0, 7);
        Due.is(40, "forty", () -> bench.counted(0));
        answers(OF_CUBIC, bench, 39);
        Due.is(12, "count of the last one", () -> bench.count(39));
        Due.is(7, "p of the last one", () -> bench.about(39, 2));
        for (Map<String, Numbered> calls : java.util.List.of(OF_CUBIC, OF_WHOLE, OF_RESTS)) {
            refusedBeyond(calls, bench, 40);
        }
    }

    private static void points() {
        CubicBench bench = Made.rests(0, 1, 7);
        bench.point(0, 2, 3);
        bench.point(1, 3, 0);
        refusedBeyond(OF_POINT, bench, 2);
        answers(OF_POINT, bench, 1);
    }

    /** Of 400 points the last one has number 399. */
    private static void pointsOfFull() {
        CubicBench bench = Made.rests(0, 1, 7);
        bench.far(1);
        bench.led(bench.point(1, 5, 0));
        bench.far(2);
        Made.fillPoints(bench, 399);
        bench.point(1, 3, 0);
        Due.is(400, "four hundred", () -> bench.counted(1));
        Due.is(1, "cubic of the last one", () -> bench.told(399, 0));
        Due.is(399, "mirror of the last one", () -> bench.mirror(399));
        Due.is(2, "order of the last one", () -> bench.order(399));
        Due.is(1, "pair of the last one", () -> bench.pair(399, 399, 2));
        Due.is(0, "twice the last one", () -> bench.add(399, 399));
        Due.is(1, "x of the last one", () -> bench.print(399, 0));
        refusedBeyond(OF_POINT, bench, 400);
    }

    private static void eachOfTwoPoints() {
        CubicBench bench = Made.rests(0, 1, 7);
        bench.point(0, -1, 0);
        bench.point(1, 3, 0);
        for (int none : new int[] {-1, 2, Integer.MIN_VALUE, Integer.MAX_VALUE}) {
            for (int some : new int[] {0, 1}) {
                Due.index("add " + some + ", " + none, () -> bench.add(some, none));
                Due.index("add " + none + ", " + some, () -> bench.add(none, some));
                Due.index("pair " + some + ", " + none, () -> bench.pair(some, none, 2));
                Due.index("pair " + none + ", " + some, () -> bench.pair(none, some, 2));
                Due.index("through " + some + ", " + none, () -> bench.through(some, none));
                Due.index("through " + none + ", " + some, () -> bench.through(none, some));
            }
        }
        Due.is(2, "no cubic more", () -> bench.counted(0));
        Due.is(2, "no point more", () -> bench.counted(1));
    }
}
