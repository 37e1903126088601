/** Objects that the tests begin with. None of them takes more than its share of an object's 512 calls. */
final class Made {
    /** Its LIST is longer than 400, so it fills an object with points one by one. */
    private static final int LONG_LIST_PRIME = 1999;

    private Made() {
    }

    /** One WHOLE cubic, with number 0. */
    static CubicBench whole(int a, int b) {
        CubicBench bench = new CubicBench();
        bench.cubic(a, b);
        return bench;
    }

    /** A WHOLE cubic with number 0, its RESTS by p with number 1. */
    static CubicBench rests(int a, int b, int p) {
        CubicBench bench = whole(a, b);
        bench.rest(0, p);
        return bench;
    }

    /** New WHOLE cubics, none of which a test uses otherwise, until there are so many. */
    static void fillCubics(CubicBench bench, int until) {
        for (int held = bench.counted(0); held < until; held++) {
            bench.cubic(9000 + held, 7);
        }
    }

    /** New points of a cubic that no test uses otherwise, until there are so many. */
    static void fillPoints(CubicBench bench, int until) {
        int longest = bench.rest(bench.cubic(8000, 3), LONG_LIST_PRIME);
        int k = 0;
        for (int held = bench.counted(1); held < until; held++) {
            bench.list(longest, k);
            k++;
        }
    }
}
