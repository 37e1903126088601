/** Promises 23 to 25: polynomial, coefficient, root. */
public final class PolynomialsTest {
    public static void main(String[] args) {
        beginnings();
        degrees();
        fallenDegrees();
        rootsArePoints();
        refused();
        Due.end();
    }

    private static CubicBench rests(int a, int b, int p) {
        CubicBench bench = new CubicBench();
        bench.cubic(a, b);
        bench.rest(0, p);
        return bench;
    }

    private static void row(CubicBench bench, String name, int... due) {
        for (int k = 0; k < due.length; k++) {
            int at = k;
            Due.is(due[k], name + ", coefficient " + k, () -> bench.coefficient(at));
        }
        for (int k : new int[] {-1, due.length, due.length + 1, 61, 63, 64, 65, Integer.MAX_VALUE, Integer.MIN_VALUE}) {
            Due.is(0, name + ", coefficient " + k, () -> bench.coefficient(k));
        }
    }

    private static void beginnings() {
        CubicBench bench = rests(1, 1, 5);
        row(bench, "ahead of any");
        Due.is(-1, "root ahead of any", () -> bench.root(0));
        Due.is(0, "f1", () -> bench.polynomial(1, 1));
        row(bench, "f1", 1);
        Due.is(-1, "root of f1", () -> bench.root(0));
        Due.is(0, "f2", () -> bench.polynomial(1, 2));
        row(bench, "f2", 2);
        Due.is(4, "f3", () -> bench.polynomial(1, 3));
        row(bench, "f3", 4, 2, 1, 0, 3);
        Due.is(1, "root 0 of f3, without a point", () -> bench.root(0));
        Due.is(2, "root 1 of f3", () -> bench.root(1));
        Due.is(-1, "root 2 of f3", () -> bench.root(2));
        Due.is(-1, "root -1 of f3", () -> bench.root(-1));
        Due.is(-1, "greatest root of f3", () -> bench.root(Integer.MAX_VALUE));
        Due.is(6, "f4", () -> bench.polynomial(1, 4));
        row(bench, "f4", 4, 4, 0, 0, 0, 0, 4);
        CubicBench other = rests(2, 3, 101);
        other.polynomial(1, 3);
        row(other, "other f3", 97, 36, 12, 0, 3);
        other.polynomial(1, 4);
        row(other, "other f4", -320 + 404, -96 + 101, -80 + 101, 240 - 202, 40, 0, 4);
        Due.is(0, "no points told", () -> other.counted(1));
    }

    private static void degrees() {
        CubicBench bench = rests(-7, 10, 1999);
        for (int n = 1; n <= 11; n++) {
            int k = n;
            int degree = n % 2 == 1 ? (n * n - 1) / 2 : (n * n - 4) / 2;
            Due.is(degree, "degree of f" + n, () -> bench.polynomial(1, k));
            Due.is(n, "highest coefficient of f" + n, () -> bench.coefficient(degree));
            Due.is(0, "coefficient behind it", () -> bench.coefficient(degree + 1));
        }
        Due.is(4, "back to f3", () -> bench.polynomial(1, 3));
        Due.is(0, "f3 behind its degree", () -> bench.coefficient(60));
        Due.is(0, "f3 just behind its degree", () -> bench.coefficient(5));
    }

    /** The highest coefficient is n: by p = n it falls away. */
    private static void fallenDegrees() {
        CubicBench five = rests(1, 1, 5);
        Due.is(10, "f5 by 5", () -> five.polynomial(1, 5));
        CubicBench even = rests(0, 1, 5);
        Due.is(0, "f5 by 5 where N is 6", () -> even.polynomial(1, 5));
        Due.is(-1, "without a root", () -> even.root(0));
        CubicBench eleven = rests(0, 1, 11);
        Due.is(0, "f11 by 11 where N is 12", () -> eleven.polynomial(1, 11));
    }

    private static void rootsArePoints() {
        int[][] cubics = {{1, 1, 23}, {0, 1, 31}, {0, 1, 37}, {-1, 0, 13}, {3, 8, 61}, {0, 1, 61}, {5, 7, 97}, {1, 1, 5}, {3, 1, 7}};
        for (int[] row : cubics) {
            for (int n = 1; n <= 11; n++) {
                rootsArePoints(row, n);
            }
        }
    }

    private static void rootsArePoints(int[] row, int n) {
        CubicBench bench = rests(row[0], row[1], row[2]);
        bench.polynomial(1, n);
        int p = row[2];
        boolean[] isRoot = new boolean[p];
        int before = -1;
        int k = 0;
        for (int x = bench.root(k); x != -1; x = bench.root(k)) {
            Due.is(1, "roots rise", x > before ? () -> 1 : () -> 0);
            isRoot[x] = true;
            before = x;
            k++;
        }
        for (int x = 0; x < p; x++) {
            for (int y = 0; y < p; y++) {
                if (Math.floorMod(y * y - x * x * x - row[0] * x - row[1], p) != 0) {
                    continue;
                }
                int q = bench.point(1, x, y);
                boolean comesBack = n % bench.order(q) == 0 && (n % 2 == 1 || y != 0);
                int at = x;
                Due.is(comesBack ? 1 : 0, "is " + x + " a root of f" + n + " by " + p, () -> isRoot[at] ? 1 : 0);
            }
        }
    }

    private static void refused() {
        CubicBench bench = rests(1, 1, 5);
        bench.rest(0, 2003);
        bench.polynomial(1, 3);
        Due.argument("n 0", () -> bench.polynomial(1, 0));
        Due.argument("n 12", () -> bench.polynomial(1, 12));
        Due.argument("n -1", () -> bench.polynomial(1, -1));
        Due.argument("p above 2,000", () -> bench.polynomial(2, 3));
        Due.argument("of a whole one", () -> bench.polynomial(0, 3));
        Due.index("of none", () -> bench.polynomial(3, 3));
        Due.index("of none, n 0", () -> bench.polynomial(-1, 0));
        row(bench, "the latest one stays", 4, 2, 1, 0, 3);
        Due.is(1, "its root stays", () -> bench.root(0));
    }
}
