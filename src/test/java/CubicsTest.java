/** Promises 1 to 5: a new object, cubic, rest, turned, about. */
public final class CubicsTest {
    public static void main(String[] args) {
        newObject();
        cubic();
        rest();
        turned();
        aboutWhole();
        aboutRests();
        Due.end();
    }

    private static void newObject() {
        CubicBench bench = new CubicBench();
        Due.is(-1, "NONE", () -> CubicBench.NONE);
        for (int what = 0; what < 3; what++) {
            int k = what;
            Due.is(0, "new counted " + what, () -> bench.counted(k));
        }
        Due.is(-1, "new octet(0)", () -> bench.octet(0));
        Due.is(0, "new coefficient(0)", () -> bench.coefficient(0));
        Due.is(-1, "new root(0)", () -> bench.root(0));
        Due.index("new about(0, 0)", () -> bench.about(0, 0));
        Due.index("new told(0, 0)", () -> bench.told(0, 0));
        Due.index("new found(0, 0)", () -> bench.found(0, 0));
    }

    private static void cubic() {
        CubicBench bench = new CubicBench();
        Due.is(-1, "worth 0", () -> bench.cubic(0, 0));
        Due.is(-1, "worth 0 again", () -> bench.cubic(-3, 2));
        Due.is(-1, "worth 0, great", () -> bench.cubic(-27 * 9, 54 * 27));
        Due.is(0, "none kept of worth 0", () -> bench.counted(0));
        Due.is(0, "first", () -> bench.cubic(0, 1));
        Due.is(1, "second", () -> bench.cubic(1, 0));
        Due.is(0, "first again", () -> bench.cubic(0, 1));
        Due.is(2, "edges", () -> bench.cubic(10000, -10000));
        Due.is(3, "other edges", () -> bench.cubic(-10000, 10000));
        Due.argument("a above", () -> bench.cubic(10001, 0));
        Due.argument("a below", () -> bench.cubic(-10001, 1));
        Due.argument("b above", () -> bench.cubic(0, 10001));
        Due.argument("b below", () -> bench.cubic(1, -10001));
        Due.argument("a least int", () -> bench.cubic(Integer.MIN_VALUE, 1));
        Due.argument("b least int", () -> bench.cubic(1, Integer.MIN_VALUE));
        Due.is(4, "four kept", () -> bench.counted(0));
    }

    private static void rest() {
        CubicBench bench = new CubicBench();
        bench.cubic(-1, -2);
        Due.is(1, "by 5", () -> bench.rest(0, 5));
        Due.is(1, "by 5 again", () -> bench.rest(0, 5));
        Due.is(4, "a by 5", () -> bench.about(1, 0));
        Due.is(3, "b by 5", () -> bench.about(1, 1));
        bench.cubic(4, 3);
        Due.is(1, "the same rests of another", () -> bench.rest(2, 5));
        Due.is(3, "greatest prime", () -> bench.rest(0, 1000003));
        Due.is(1000002, "a by the greatest", () -> bench.about(3, 0));
        bench.cubic(0, 7);
        Due.is(-1, "worth 0 by 7", () -> bench.rest(4, 7));
        Due.is(5, "by 11", () -> bench.rest(4, 11));
        Due.is(-1, "worth 0 by 13", () -> bench.rest(bench.cubic(-3, 15), 13));
        for (int p : new int[] {-5, 0, 1, 2, 3, 4, 9, 15, 49, 1000001, 1000000, 1000033, 999999, Integer.MAX_VALUE,
            Integer.MIN_VALUE}) {
            Due.argument("rest by " + p, () -> bench.rest(0, p));
        }
        Due.argument("rest of rests", () -> bench.rest(1, 5));
        Due.index("rest of none", () -> bench.rest(99, 5));
        Due.index("rest of none, no prime", () -> bench.rest(-1, 4));
    }

    private static void turned() {
        CubicBench bench = new CubicBench();
        bench.cubic(1, 1);
        bench.rest(0, 5);
        Due.is(2, "turned by 5", () -> bench.turned(1));
        Due.is(4, "a 4", () -> bench.about(2, 0));
        Due.is(3, "b 8", () -> bench.about(2, 1));
        Due.is(5, "p", () -> bench.about(2, 2));
        Due.is(3, "turned twice: a 16, b 64", () -> bench.turned(2));
        Due.is(1, "a 16", () -> bench.about(3, 0));
        Due.is(4, "b 64", () -> bench.about(3, 1));
        Due.is(4, "turned three times: b is 2 * 2 * 2 * 4", () -> bench.turned(3));
        Due.is(1, "turned four times", () -> bench.turned(4));
        bench.rest(0, 23);
        Due.is(6, "turned by 23, 5 the least that is no square", () -> bench.turned(5));
        Due.is(2, "a 25 by 23", () -> bench.about(6, 0));
        Due.is(10, "b 125 by 23", () -> bench.about(6, 1));
        bench.rest(0, 71);
        bench.turned(7);
        Due.is(49, "a 49 by 71, 7 the least", () -> bench.about(8, 0));
        Due.argument("turned whole", () -> bench.turned(0));
        Due.index("turned none", () -> bench.turned(9));
        Due.index("turned below", () -> bench.turned(-1));
    }

    private static void aboutWhole() {
        CubicBench bench = new CubicBench();
        bench.cubic(-7, 10);
        Due.is(-7, "a", () -> bench.about(0, 0));
        Due.is(10, "b", () -> bench.about(0, 1));
        Due.is(0, "p", () -> bench.about(0, 2));
        Due.is(4 * -343 + 2700, "worth", () -> bench.about(0, 3));
        Due.is(0, "invariant", () -> bench.about(0, 4));
        bench.cubic(-10000, 10000);
        Due.is(-3997300000000L, "great worth below 0", () -> bench.about(1, 3));
        bench.cubic(10000, -10000);
        Due.is(4002700000000L, "great worth", () -> bench.about(2, 3));
        Due.argument("about 5", () -> bench.about(0, 5));
        Due.argument("about -1", () -> bench.about(0, -1));
        Due.index("about none", () -> bench.about(3, 0));
        Due.index("about none, other what", () -> bench.about(-1, 9));
    }

    private static void aboutRests() {
        CubicBench bench = new CubicBench();
        bench.cubic(1, 1);
        bench.rest(0, 5);
        Due.is(1, "a", () -> bench.about(1, 0));
        Due.is(1, "b", () -> bench.about(1, 1));
        Due.is(5, "p", () -> bench.about(1, 2));
        Due.is(1, "worth 31 by 5", () -> bench.about(1, 3));
        Due.is(2, "invariant 6912 / 31 by 5", () -> bench.about(1, 4));
        bench.cubic(0, 1);
        bench.rest(2, 7);
        Due.is(0, "invariant without a", () -> bench.about(3, 4));
        bench.cubic(1, 0);
        bench.rest(4, 7);
        Due.is(1728 % 7, "invariant without b", () -> bench.about(5, 4));
        bench.rest(0, 1000003);
        Due.is(31, "worth by the greatest", () -> bench.about(6, 3));
        Due.is(6912, "invariant times worth", () -> bench.about(6, 4) * 31 % 1000003);
        Due.argument("about rests 5", () -> bench.about(1, 5));
    }
}
