import java.util.LinkedHashMap;
import java.util.Map;

/**
 * Behind a call that throws, or answers a number below 0, all that the document says of the state
 * still holds: cubics and points with their numbers, the PAGE, the latest SEARCH and POLYNOMIAL.
 */
public final class RefusedTest {
    interface Refused {
        long run(CubicBench bench);
    }

    private static final int LEAST = Integer.MIN_VALUE;
    private static final int MOST = Integer.MAX_VALUE;

    // What furnished() gives: cubics, and points of them.
    private static final int WHOLE = 0;
    private static final int RESTS = 1;
    private static final int WIDE = 2;
    private static final int LINE = 3;
    private static final int EDGE = 4;
    private static final int ORDER_TWO = 0;
    private static final int ORDER_SIX = 1;
    private static final int REST_FAR = 2;
    private static final int REST_SIX = 3;
    private static final int ENDLESS = 4;
    private static final int EIGHT = 5;
    private static final int WIDE_TWO = 6;
    private static final int EDGE_TWO = 7;
    private static final int WHOLE_FAR = 8;

    private static final Map<String, Refused> INDEX = new LinkedHashMap<>();
    private static final Map<String, Refused> ARGUMENT = new LinkedHashMap<>();
    private static final Map<String, Refused> MINUS_ONE = new LinkedHashMap<>();
    private static final Map<String, Refused> MINUS_TWO = new LinkedHashMap<>();
    private static final Map<String, Refused> MINUS_THREE = new LinkedHashMap<>();

    public static void main(String[] args) {
        nameIndexes();
        nameArguments();
        nameArgumentsOfPoints();
        nameAnswers();
        checkAll("IndexOutOfBoundsException", INDEX);
        checkAll("IllegalArgumentException", ARGUMENT);
        checkAll("-1", MINUS_ONE);
        checkAll("-2", MINUS_TWO);
        checkAll("-3", MINUS_THREE);
        allInOneRun();
        nothingFoundIsALatestSearch();
        spentOnTheWay();
        Due.end();
    }

    private static CubicBench furnished() {
        CubicBench bench = new CubicBench();
        bench.cubic(0, 1);
        bench.rest(WHOLE, 7);
        bench.rest(WHOLE, 2003);
        bench.cubic(0, -2);
        bench.cubic(-2501, 0);
        bench.point(WHOLE, -1, 0);
        bench.point(WHOLE, 2, 3);
        bench.far(RESTS);
        bench.point(RESTS, 1, 3);
        bench.point(LINE, 3, 5);
        bench.times(ENDLESS, 8);
        bench.point(WIDE, 2002, 0);
        bench.point(EDGE, 0, 0);
        bench.far(WHOLE);
        bench.search(LINE, 129);
        bench.polynomial(RESTS, 3);
        bench.print(ENDLESS, 1);
        bench.mirror(ENDLESS);
        bench.print(ORDER_TWO, 0);
        return bench;
    }

    private static String state(CubicBench bench) {
        StringBuilder all = new StringBuilder();
        for (int what = 0; what < 3; what++) {
            all.append(bench.counted(what)).append(' ');
        }
        for (int c = 0; c < bench.counted(0); c++) {
            all.append(bench.about(c, 0)).append(' ').append(bench.about(c, 1)).append(' ').append(bench.about(c, 2)).append(' ');
        }
        for (int p = 0; p < bench.counted(1); p++) {
            all.append(bench.told(p, 0)).append(' ').append(bench.told(p, 1)).append(' ').append(bench.order(p)).append(' ');
        }
        for (int k = -1; k < 4; k++) {
            all.append(bench.octet(k)).append(' ').append(bench.root(k)).append(' ').append(bench.coefficient(k)).append(' ');
        }
        for (int k = 0; k < 3; k++) {
            int at = k;
            for (int what = 0; what < 3; what++) {
                int which = what;
                all.append(Due.answer(() -> bench.found(at, which))).append(' ');
            }
        }
        all.append(bench.point(WHOLE, 2, 3)).append(' ').append(bench.cubic(0, -2)).append(' ');
        return all.append(bench.cubic(77, 1)).append(' ').append(bench.point(WHOLE, 0, 1)).toString();
    }

    private static void nameIndexes() {
        for (int none : new int[] {-1, 99, LEAST, MOST}) {
            INDEX.put("rest " + none, bench -> bench.rest(none, 11));
            INDEX.put("turned " + none, bench -> bench.turned(none));
            INDEX.put("about " + none, bench -> bench.about(none, 0));
            INDEX.put("far " + none, bench -> bench.far(none));
            INDEX.put("point " + none, bench -> bench.point(none, 0, 1));
            INDEX.put("add first " + none, bench -> bench.add(none, ORDER_SIX));
            INDEX.put("add second " + none, bench -> bench.add(ORDER_SIX, none));
            INDEX.put("mirror " + none, bench -> bench.mirror(none));
            INDEX.put("times " + none, bench -> bench.times(none, 2));
            INDEX.put("order " + none, bench -> bench.order(none));
            INDEX.put("told " + none, bench -> bench.told(none, 0));
            INDEX.put("print " + none, bench -> bench.print(none, 0));
            INDEX.put("back " + none, bench -> bench.back(none));
            INDEX.put("backAt " + none, bench -> bench.backAt(none, 0));
            INDEX.put("search " + none, bench -> bench.search(none, 2));
            INDEX.put("found " + none, bench -> bench.found(none, 0));
            INDEX.put("count " + none, bench -> bench.count(none));
            INDEX.put("over " + none, bench -> bench.over(none, 2));
            INDEX.put("list " + none, bench -> bench.list(none, 1));
            INDEX.put("group " + none, bench -> bench.group(none, 2));
            INDEX.put("pair first " + none, bench -> bench.pair(none, REST_SIX, 6));
            INDEX.put("pair second " + none, bench -> bench.pair(REST_SIX, none, 6));
            INDEX.put("polynomial " + none, bench -> bench.polynomial(none, 4));
            INDEX.put("led " + none, bench -> bench.led(none));
            INDEX.put("through by " + none, bench -> bench.through(none, ORDER_SIX));
            INDEX.put("through of " + none, bench -> bench.through(ORDER_TWO, none));
        }
        INDEX.put("found behind the last one", bench -> bench.found(2, 0));
    }

    private static void nameArguments() {
        for (int beyond : new int[] {-10001, 10001, LEAST, MOST}) {
            ARGUMENT.put("cubic a " + beyond, bench -> bench.cubic(beyond, 1));
            ARGUMENT.put("cubic b " + beyond, bench -> bench.cubic(1, beyond));
        }
        for (int p : new int[] {LEAST, -5, 0, 1, 2, 3, 4, 9, 1000001, 1000033, MOST}) {
            ARGUMENT.put("rest by " + p, bench -> bench.rest(WHOLE, p));
        }
        ARGUMENT.put("rest of rests", bench -> bench.rest(RESTS, 11));
        ARGUMENT.put("turned of a whole one", bench -> bench.turned(WHOLE));
        for (int what : new int[] {LEAST, -1, 5, MOST}) {
            ARGUMENT.put("about " + what, bench -> bench.about(WHOLE, what));
            ARGUMENT.put("told " + what, bench -> bench.told(ORDER_SIX, what));
            ARGUMENT.put("print " + what, bench -> bench.print(ORDER_SIX, what));
            ARGUMENT.put("print of FAR " + what, bench -> bench.print(REST_FAR, what));
            ARGUMENT.put("found " + what, bench -> bench.found(0, what));
            ARGUMENT.put("group " + what, bench -> bench.group(RESTS, what));
            ARGUMENT.put("over " + what, bench -> bench.over(RESTS, what));
        }
        for (int beyond : new int[] {LEAST, -1000001, 1000001, MOST}) {
            ARGUMENT.put("point x " + beyond, bench -> bench.point(WHOLE, beyond, 0));
            ARGUMENT.put("point y " + beyond, bench -> bench.point(WHOLE, 0, beyond));
        }
        for (int beyond : new int[] {LEAST, -1, 7, MOST}) {
            ARGUMENT.put("point x by 7 " + beyond, bench -> bench.point(RESTS, beyond, 0));
            ARGUMENT.put("point y by 7 " + beyond, bench -> bench.point(RESTS, 0, beyond));
        }
        for (int bound : new int[] {LEAST, -1, 0, 401, MOST}) {
            ARGUMENT.put("search by " + bound, bench -> bench.search(WHOLE, bound));
        }
        ARGUMENT.put("search of rests", bench -> bench.search(RESTS, 5));
        ARGUMENT.put("back of rests", bench -> bench.back(RESTS));
        ARGUMENT.put("backAt of rests", bench -> bench.backAt(RESTS, 0));
        for (int n : new int[] {LEAST, -1, 0, 12, MOST}) {
            ARGUMENT.put("polynomial " + n, bench -> bench.polynomial(RESTS, n));
        }
        for (int c : new int[] {WHOLE, WIDE}) {
            ARGUMENT.put("list of " + c, bench -> bench.list(c, 0));
            ARGUMENT.put("group of " + c, bench -> bench.group(c, 2));
            ARGUMENT.put("polynomial of " + c, bench -> bench.polynomial(c, 2));
        }
        ARGUMENT.put("count of a whole one", bench -> bench.count(WHOLE));
        ARGUMENT.put("over of a whole one", bench -> bench.over(WHOLE, 1));
    }

    private static void nameArgumentsOfPoints() {
        for (int n : new int[] {LEAST, -21, 21, MOST}) {
            ARGUMENT.put("times " + n, bench -> bench.times(ORDER_SIX, n));
            ARGUMENT.put("times of FAR " + n, bench -> bench.times(WHOLE_FAR, n));
        }
        for (int n : new int[] {LEAST, -6, 0, 1, 5, 7, 42, 1000001, MOST}) {
            ARGUMENT.put("pair by " + n, bench -> bench.pair(REST_SIX, REST_SIX, n));
        }
        ARGUMENT.put("pair of whole ones", bench -> bench.pair(ORDER_TWO, ORDER_TWO, 2));
        ARGUMENT.put("pair by 2003", bench -> bench.pair(WIDE_TWO, WIDE_TWO, 2));
        ARGUMENT.put("pair of two cubics", bench -> bench.pair(REST_FAR, WIDE_TWO, 2));
    }

    private static void nameAnswers() {
        MINUS_ONE.put("cubic of worth 0", bench -> bench.cubic(-3, 2));
        MINUS_ONE.put("rest of worth 0", bench -> bench.rest(EDGE, 41));
        MINUS_ONE.put("point", bench -> bench.point(WHOLE, 1, 1));
        MINUS_ONE.put("point of rests", bench -> bench.point(RESTS, 1, 1));
        MINUS_ONE.put("add", bench -> bench.add(ORDER_TWO, REST_SIX));
        MINUS_ONE.put("print x of FAR", bench -> bench.print(REST_FAR, 0));
        MINUS_ONE.put("print y of FAR", bench -> bench.print(WHOLE_FAR, 1));
        MINUS_ONE.put("backAt behind the last one", bench -> bench.backAt(WHOLE, 6));
        MINUS_ONE.put("backAt below 0", bench -> bench.backAt(WHOLE, -1));
        MINUS_ONE.put("list behind the last one", bench -> bench.list(RESTS, 12));
        MINUS_ONE.put("list below 0", bench -> bench.list(RESTS, -1));
        MINUS_ONE.put("root behind the last one", bench -> bench.root(4));
        MINUS_ONE.put("led by order 1", bench -> bench.led(WHOLE_FAR));
        MINUS_ONE.put("led by order 6", bench -> bench.led(ORDER_SIX));
        MINUS_ONE.put("led by order 0", bench -> bench.led(ENDLESS));
        MINUS_ONE.put("led by a fraction", bench -> bench.led(EIGHT));
        MINUS_ONE.put("through by order 6", bench -> bench.through(ORDER_SIX, ORDER_TWO));
        MINUS_ONE.put("counted 3", bench -> bench.counted(3));
        MINUS_ONE.put("octet 2", bench -> bench.octet(2));
        MINUS_TWO.put("add", bench -> bench.add(EIGHT, EIGHT));
        MINUS_TWO.put("times", bench -> bench.times(ENDLESS, 20));
        MINUS_TWO.put("times below 0", bench -> bench.times(EIGHT, -2));
        MINUS_TWO.put("led", bench -> bench.led(EDGE_TWO));
        MINUS_TWO.put("through", bench -> bench.through(EDGE_TWO, EDGE_TWO));
        MINUS_THREE.put("through", bench -> bench.through(ORDER_TWO, ENDLESS));
        MINUS_THREE.put("through of rests", bench -> bench.through(WIDE_TWO, REST_SIX));
    }

    private static void checkAll(String want, Map<String, Refused> calls) {
        String before = state(furnished());
        for (Map.Entry<String, Refused> call : calls.entrySet()) {
            CubicBench bench = furnished();
            Due.same(want, Due.answer(() -> call.getValue().run(bench)), call.getKey());
            Due.same(before, state(bench), "the state behind " + call.getKey());
        }
    }

    /** One refused call behind the other, on one object. */
    private static void allInOneRun() {
        CubicBench bench = furnished();
        for (Map<String, Refused> calls : java.util.List.of(INDEX, ARGUMENT, MINUS_ONE, MINUS_TWO, MINUS_THREE)) {
            for (Refused call : calls.values()) {
                Due.answer(() -> call.run(bench));
            }
        }
        Due.same(state(furnished()), state(bench), "the state behind all of them");
    }

    /** A SEARCH that finds nothing is the latest one all the same. */
    private static void nothingFoundIsALatestSearch() {
        CubicBench bench = furnished();
        Due.is(129, "r of the second one", () -> bench.found(1, 0));
        Due.is(0, "nothing by 1", () -> bench.search(LINE, 1));
        Due.index("then there is none", () -> bench.found(0, 0));
    }

    /** 8 times (-2, 1) would be led to more than 100 digits. */
    private static void spentOnTheWay() {
        CubicBench bench = Made.whole(0, 9);
        int by = bench.point(0, 0, 3);
        int of = bench.times(bench.point(0, -2, 1), 8);
        bench.print(by, 1);
        int points = bench.counted(1);
        Due.is(-4, "spent", () -> bench.through(by, of));
        Due.is(1, "no cubic more", () -> bench.counted(0));
        Due.is(points, "no point more", () -> bench.counted(1));
        Due.text("3", "the page stays", bench);
    }
}
