/** Promise 1, and what every other call answers of an object that holds nothing yet. */
public final class EmptyTest {
    private static final int LEAST = Integer.MIN_VALUE;
    private static final int MOST = Integer.MAX_VALUE;
    private static final int[] ANY = {0, 1, -1, 39, 40, 399, 400, LEAST, MOST};

    public static void main(String[] args) {
        holdsNothing();
        noCubic();
        noPoint();
        cubicsButNoPoint();
        nothingSearched();
        noPolynomial();
        emptyPage();
        nothingKeptOfRefused();
        firstNumbersAreNought();
        eachObjectOfItsOwn();
        Due.end();
    }

    private static void isEmpty(CubicBench bench, String name) {
        Due.is(0, name + ": cubics", () -> bench.counted(0));
        Due.is(0, name + ": points", () -> bench.counted(1));
        Due.is(0, name + ": bytes", () -> bench.counted(2));
        Due.is(-1, name + ": octet", () -> bench.octet(0));
    }

    /** "No CUBICS, no POINTS; an empty PAGE." */
    private static void holdsNothing() {
        isEmpty(new CubicBench(), "new");
        Due.is(-1, "NONE", () -> CubicBench.NONE);
    }

    /** "IndexOutOfBoundsException: no such CUBIC (so below)", with right and with wrong other numbers. */
    private static void noCubic() {
        CubicBench bench = new CubicBench();
        for (int c : ANY) {
            Due.index("rest " + c, () -> bench.rest(c, 5));
            Due.index("rest by 4 " + c, () -> bench.rest(c, 4));
            Due.index("turned " + c, () -> bench.turned(c));
            Due.index("about " + c, () -> bench.about(c, 0));
            Due.index("about 5 " + c, () -> bench.about(c, 5));
            Due.index("far " + c, () -> bench.far(c));
            Due.index("point " + c, () -> bench.point(c, 0, 1));
            Due.index("point too wide " + c, () -> bench.point(c, MOST, LEAST));
            Due.index("back " + c, () -> bench.back(c));
            Due.index("backAt " + c, () -> bench.backAt(c, 0));
            Due.index("backAt -1 " + c, () -> bench.backAt(c, -1));
            Due.index("search " + c, () -> bench.search(c, 1));
            Due.index("search by 0 " + c, () -> bench.search(c, 0));
            Due.index("count " + c, () -> bench.count(c));
            Due.index("over " + c, () -> bench.over(c, 1));
            Due.index("over 4 " + c, () -> bench.over(c, 4));
            Due.index("list " + c, () -> bench.list(c, 0));
            Due.index("list -1 " + c, () -> bench.list(c, -1));
            Due.index("group " + c, () -> bench.group(c, 0));
            Due.index("group 4 " + c, () -> bench.group(c, 4));
            Due.index("polynomial " + c, () -> bench.polynomial(c, 1));
            Due.index("polynomial 12 " + c, () -> bench.polynomial(c, 12));
        }
        isEmpty(bench, "behind calls without a cubic");
    }

    /** "IndexOutOfBoundsException: no such POINT (so below)". */
    private static void noPointOf(CubicBench bench) {
        for (int p : ANY) {
            Due.index("add " + p, () -> bench.add(p, p));
            Due.index("mirror " + p, () -> bench.mirror(p));
            Due.index("times " + p, () -> bench.times(p, 1));
            Due.index("times 21 " + p, () -> bench.times(p, 21));
            Due.index("order " + p, () -> bench.order(p));
            Due.index("told " + p, () -> bench.told(p, 0));
            Due.index("told 2 " + p, () -> bench.told(p, 2));
            Due.index("print " + p, () -> bench.print(p, 0));
            Due.index("print 2 " + p, () -> bench.print(p, 2));
            Due.index("pair " + p, () -> bench.pair(p, p, 2));
            Due.index("pair by 1 " + p, () -> bench.pair(p, p, 1));
            Due.index("led " + p, () -> bench.led(p));
            Due.index("through " + p, () -> bench.through(p, p));
        }
    }

    private static void noPoint() {
        CubicBench bench = new CubicBench();
        noPointOf(bench);
        isEmpty(bench, "behind calls without a point");
    }

    private static void cubicsButNoPoint() {
        CubicBench bench = Made.rests(0, 1, 7);
        noPointOf(bench);
        Due.is(2, "two cubics", () -> bench.counted(0));
        Due.is(0, "but no point", () -> bench.counted(1));
    }

    /** Found: "IndexOutOfBoundsException: there is none", ahead of any SEARCH too. */
    private static void nothingSearched() {
        CubicBench bench = new CubicBench();
        for (int k : ANY) {
            for (int what : new int[] {0, 1, 2, 3, -1, LEAST, MOST}) {
                Due.index("found " + k + ", " + what, () -> bench.found(k, what));
            }
        }
    }

    /** Coefficient: "0 beyond, and ahead of any"; root: "NONE without one". */
    private static void noPolynomial() {
        CubicBench bench = new CubicBench();
        for (int k : ANY) {
            Due.is(0, "coefficient " + k, () -> bench.coefficient(k));
            Due.is(-1, "root " + k, () -> bench.root(k));
        }
    }

    private static void emptyPage() {
        CubicBench bench = new CubicBench();
        for (int k : ANY) {
            Due.is(-1, "octet " + k, () -> bench.octet(k));
        }
        for (int what : new int[] {3, -1, LEAST, MOST}) {
            Due.is(-1, "counted " + what, () -> bench.counted(what));
        }
        bench.cubic(0, 1);
        int far = bench.far(0);
        Due.is(-1, "FAR is not printed", () -> bench.print(far, 0));
        Due.is(0, "the page stays empty", () -> bench.counted(2));
        Due.is(-1, "and has no byte", () -> bench.octet(0));
    }

    private static void nothingKeptOfRefused() {
        CubicBench bench = new CubicBench();
        Due.is(-1, "worth 0", () -> bench.cubic(0, 0));
        Due.argument("too wide", () -> bench.cubic(10001, 1));
        isEmpty(bench, "behind refused cubics");
    }

    /** "numbered from 0 on" */
    private static void firstNumbersAreNought() {
        CubicBench bench = new CubicBench();
        bench.cubic(0, 0);
        Due.is(0, "the first cubic", () -> bench.cubic(0, 1));
        bench.point(0, 1, 1);
        Due.is(0, "the first point", () -> bench.point(0, 2, 3));
        Due.is(1, "the second cubic", () -> bench.rest(0, 5));
        Due.is(1, "the second point", () -> bench.far(1));
    }

    private static void eachObjectOfItsOwn() {
        CubicBench full = Made.rests(0, 1, 7);
        full.print(full.point(0, 2, 3), 0);
        full.search(0, 2);
        full.polynomial(1, 3);
        CubicBench other = new CubicBench();
        isEmpty(other, "another object");
        Due.index("another object's search", () -> other.found(0, 0));
        Due.is(0, "another object's polynomial", () -> other.coefficient(4));
        Due.is(-1, "another object's roots", () -> other.root(0));
        other.cubic(5, 5);
        Due.is(1, "b of the first object's cubic", () -> full.about(0, 1));
    }
}
