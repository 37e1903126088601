import java.math.BigInteger;
import java.util.ArrayList;
import java.util.Arrays;
import java.util.HashMap;
import java.util.List;
import java.util.Map;

/**
 * The document said again in the slowest and plainest way, with the Java library's numbers, to
 * hold the class against. It shares no line with it.
 */
final class Reference {
    record Frac(BigInteger top, BigInteger bottom) {
        static Frac of(BigInteger top, BigInteger bottom) {
            BigInteger g = top.gcd(bottom);
            if (bottom.signum() < 0) {
                g = g.negate();
            }
            return new Frac(top.divide(g), bottom.divide(g));
        }

        static Frac of(long n) {
            return new Frac(BigInteger.valueOf(n), BigInteger.ONE);
        }

        Frac plus(Frac o) {
            return of(top.multiply(o.bottom).add(o.top.multiply(bottom)), bottom.multiply(o.bottom));
        }

        Frac minus(Frac o) {
            return plus(new Frac(o.top.negate(), o.bottom));
        }

        Frac by(Frac o) {
            return of(top.multiply(o.top), bottom.multiply(o.bottom));
        }

        Frac over(Frac o) {
            return of(top.multiply(o.bottom), bottom.multiply(o.top));
        }

        boolean isZero() {
            return top.signum() == 0;
        }

        boolean isSpent() {
            return top.abs().toString().length() > 100 || bottom.toString().length() > 100;
        }

        boolean isWhole() {
            return bottom.equals(BigInteger.ONE);
        }

        @Override
        public String toString() {
            return isWhole() ? top.toString() : top + "/" + bottom;
        }
    }

    record Cubic(long a, long b, long p) {
        boolean whole() {
            return p == 0;
        }
    }

    /** x and y are null of FAR; of rests they are fractions with 1 below. */
    record Pt(int cubic, Frac x, Frac y) {
        boolean far() {
            return x == null;
        }
    }

    static final class Spent extends RuntimeException {
        private static final long serialVersionUID = 1;
    }

    static final class Unusable extends RuntimeException {
        private static final long serialVersionUID = 1;
    }

    final List<Cubic> cubics = new ArrayList<>();
    final List<Pt> points = new ArrayList<>();
    String page = "";
    List<long[]> searched = new ArrayList<>();
    long[] polynomial = new long[0];
    long polynomialPrime = 0;

    Cubic cubicAt(int c) {
        if (c < 0 || c >= cubics.size()) {
            throw new IndexOutOfBoundsException();
        }
        return cubics.get(c);
    }

    Pt pointAt(int p) {
        if (p < 0 || p >= points.size()) {
            throw new IndexOutOfBoundsException();
        }
        return points.get(p);
    }

    int keep(Cubic c) {
        if (!cubics.contains(c)) {
            if (cubics.size() == 40) {
                throw new IllegalStateException();
            }
            cubics.add(c);
        }
        return cubics.indexOf(c);
    }

    int keep(Pt p) {
        if (!points.contains(p)) {
            if (points.size() == 400) {
                throw new IllegalStateException();
            }
            points.add(p);
        }
        return points.indexOf(p);
    }

    static void demand(boolean fit) {
        if (!fit) {
            throw new IllegalArgumentException();
        }
    }

    static long mod(long n, long p) {
        return ((n % p) + p) % p;
    }

    static long inverse(long n, long p) {
        return BigInteger.valueOf(mod(n, p)).modInverse(BigInteger.valueOf(p)).longValue();
    }

    static long worth(Cubic c) {
        BigInteger a = BigInteger.valueOf(c.a);
        BigInteger b = BigInteger.valueOf(c.b);
        BigInteger w = a.pow(3).multiply(BigInteger.valueOf(4)).add(b.pow(2).multiply(BigInteger.valueOf(27)));
        return c.whole() ? w.longValueExact() : w.mod(BigInteger.valueOf(c.p)).longValue();
    }

    int cubic(int a, int b) {
        demand(a >= -10000 && a <= 10000 && b >= -10000 && b <= 10000);
        Cubic c = new Cubic(a, b, 0);
        return worth(c) == 0 ? -1 : keep(c);
    }

    int rest(int n, int p) {
        Cubic c = cubicAt(n);
        demand(c.whole() && p >= 5 && p <= 1000003 && BigInteger.valueOf(p).isProbablePrime(60));
        Cubic r = new Cubic(mod(c.a, p), mod(c.b, p), p);
        return worth(r) == 0 ? -1 : keep(r);
    }

    int turned(int n) {
        Cubic c = cubicAt(n);
        demand(!c.whole());
        boolean[] squares = squares(c.p);
        long d = 2;
        while (squares[(int) d]) {
            d++;
        }
        return keep(new Cubic(mod(c.a * d % c.p * d, c.p), mod(c.b * d % c.p * d % c.p * d, c.p), c.p));
    }

    static boolean[] squares(long p) {
        boolean[] squares = new boolean[(int) p];
        for (long y = 0; y < p; y++) {
            squares[(int) (y * y % p)] = true;
        }
        return squares;
    }

    long about(int n, int what) {
        Cubic c = cubicAt(n);
        demand(what >= 0 && what <= 4);
        if (what == 4) {
            return c.whole() ? 0 : mod(1728L * 4 % c.p * (c.a * c.a % c.p * c.a % c.p) % c.p * inverse(worth(c), c.p), c.p);
        }
        return what == 0 ? c.a : what == 1 ? c.b : what == 2 ? c.p : worth(c);
    }

    int far(int n) {
        cubicAt(n);
        return keep(new Pt(n, null, null));
    }

    int point(int n, int x, int y) {
        Cubic c = cubicAt(n);
        if (c.whole()) {
            demand(Math.abs((long) x) <= 1000000 && Math.abs((long) y) <= 1000000);
        } else {
            demand(x >= 0 && y >= 0 && x < c.p && y < c.p);
        }
        BigInteger bx = BigInteger.valueOf(x);
        BigInteger off = bx.pow(3).add(bx.multiply(BigInteger.valueOf(c.a))).add(BigInteger.valueOf(c.b))
                .subtract(BigInteger.valueOf(y).pow(2));
        boolean on = c.whole() ? off.signum() == 0 : off.mod(BigInteger.valueOf(c.p)).signum() == 0;
        return on ? keep(new Pt(n, Frac.of(x), Frac.of(y))) : -1;
    }

    Frac plus(Frac x, Frac y, Cubic c) {
        return c.whole() ? x.plus(y) : Frac.of(mod(num(x) + num(y), c.p));
    }

    Frac minus(Frac x, Frac y, Cubic c) {
        return c.whole() ? x.minus(y) : Frac.of(mod(num(x) - num(y), c.p));
    }

    Frac by(Frac x, Frac y, Cubic c) {
        return c.whole() ? x.by(y) : Frac.of(mod(num(x) * num(y), c.p));
    }

    Frac over(Frac x, Frac y, Cubic c) {
        return c.whole() ? x.over(y) : Frac.of(mod(num(x) * inverse(num(y), c.p), c.p));
    }

    static long num(Frac x) {
        return x.top.longValueExact();
    }

    Pt mirrorOf(Pt p) {
        Cubic c = cubics.get(p.cubic);
        return p.far() ? p : new Pt(p.cubic, p.x, minus(Frac.of(0), p.y, c));
    }

    Frac slope(Pt p, Pt q, Cubic c) {
        if (!p.x.equals(q.x)) {
            return over(minus(q.y, p.y, c), minus(q.x, p.x, c), c);
        }
        Frac above = plus(by(Frac.of(3), by(p.x, p.x, c), c), Frac.of(c.a), c);
        return over(above, by(Frac.of(2), p.y, c), c);
    }

    Pt sum(Pt p, Pt q) {
        Cubic c = cubics.get(p.cubic);
        if (p.far()) {
            return q;
        }
        if (q.far()) {
            return p;
        }
        if (p.equals(mirrorOf(q))) {
            return new Pt(p.cubic, null, null);
        }
        Frac s = slope(p, q, c);
        Frac x = minus(minus(by(s, s, c), p.x, c), q.x, c);
        Frac y = minus(by(s, minus(p.x, x, c), c), p.y, c);
        return new Pt(p.cubic, x, y);
    }

    static Pt unspent(Pt p) {
        if (!p.far() && (p.x.isSpent() || p.y.isSpent())) {
            throw new Spent();
        }
        return p;
    }

    Pt times(Pt p, long n) {
        Pt base = n < 0 ? mirrorOf(p) : p;
        long left = Math.abs(n);
        Pt sum = new Pt(p.cubic, null, null);
        if (cubics.get(p.cubic).whole()) {
            for (long i = 0; i < left; i++) {
                sum = unspent(sum(sum, base));
            }
            return sum;
        }
        for (; left > 0; left /= 2) {
            if (left % 2 == 1) {
                sum = sum(sum, base);
            }
            base = sum(base, base);
        }
        return sum;
    }

    int add(int p, int q) {
        Pt one = pointAt(p);
        Pt two = pointAt(q);
        if (one.cubic != two.cubic) {
            return -1;
        }
        try {
            return keep(unspent(sum(one, two)));
        } catch (Spent e) {
            return -2;
        }
    }

    int mirror(int p) {
        return keep(mirrorOf(pointAt(p)));
    }

    int times(int p, int n) {
        Pt pt = pointAt(p);
        demand(!cubics.get(pt.cubic).whole() || n >= -20 && n <= 20);
        try {
            return keep(times(pt, (long) n));
        } catch (Spent e) {
            return -2;
        }
    }

    final Map<Pt, Integer> orders = new HashMap<>();

    int order(int p) {
        return orderOf(pointAt(p));
    }

    int orderOf(Pt p) {
        return orders.computeIfAbsent(p, this::workOutOrder);
    }

    int workOutOrder(Pt p) {
        Cubic c = cubics.get(p.cubic);
        if (c.whole()) {
            Pt sum = p;
            for (int n = 1; n <= 12; n++) {
                if (sum.far()) {
                    return n;
                }
                sum = sum(sum, p);
            }
            return 0;
        }
        int all = countOf(p.cubic);
        for (int n = 1; n <= all; n++) {
            if (all % n == 0 && times(p, (long) n).far()) {
                return n;
            }
        }
        throw new AssertionError("no order");
    }

    int told(int p, int what) {
        Pt pt = pointAt(p);
        demand(what == 0 || what == 1);
        return what == 0 ? pt.cubic : pt.far() ? 1 : 0;
    }

    int print(int p, int what) {
        Pt pt = pointAt(p);
        demand(what == 0 || what == 1);
        if (pt.far()) {
            return -1;
        }
        page = (what == 0 ? pt.x : pt.y).toString();
        return page.length();
    }

    final Map<Cubic, List<Pt>> backs = new HashMap<>();

    List<Pt> backOf(int n) {
        Cubic c = cubicAt(n);
        demand(c.whole());
        return backs.computeIfAbsent(c, k -> workOutBack(n));
    }

    List<Pt> workOutBack(int n) {
        Cubic c = cubicAt(n);
        List<Pt> back = new ArrayList<>();
        back.add(new Pt(n, null, null));
        long worth = worth(c);
        for (long x = -17000; x <= 17000; x++) {
            long value = x * x * x + c.a * x + c.b;
            if (value < 0) {
                continue;
            }
            long y = (long) Math.sqrt((double) value);
            while (y * y > value) {
                y--;
            }
            while ((y + 1) * (y + 1) <= value) {
                y++;
            }
            if (y * y != value || y != 0 && worth % (y * y) != 0) {
                continue;
            }
            for (long side : y == 0 ? new long[] {0} : new long[] {-y, y}) {
                Pt pt = new Pt(n, Frac.of(x), Frac.of(side));
                if (orderOf(pt) > 0) {
                    back.add(pt);
                }
            }
        }
        return back;
    }

    int back(int n) {
        return backOf(n).size();
    }

    int backAt(int n, int k) {
        List<Pt> back = backOf(n);
        return k < 0 || k >= back.size() ? -1 : keep(back.get(k));
    }

    int search(int n, int bound) {
        Cubic c = cubicAt(n);
        demand(c.whole() && bound >= 1 && bound <= 400);
        searched = new ArrayList<>();
        for (long s = 1; s * s <= bound; s++) {
            for (long r = -bound; r <= bound; r++) {
                if (!BigInteger.valueOf(r).gcd(BigInteger.valueOf(s)).equals(BigInteger.ONE)) {
                    continue;
                }
                long s6 = s * s * s * s * s * s;
                long value = r * r * r + c.a * r * s * s * s * s + c.b * s6;
                if (value < 0) {
                    continue;
                }
                BigInteger[] root = BigInteger.valueOf(value).sqrtAndRemainder();
                if (root[1].signum() == 0) {
                    searched.add(new long[] {r, s, root[0].longValueExact()});
                }
            }
        }
        return searched.size();
    }

    long found(int k, int what) {
        if (k < 0 || k >= searched.size()) {
            throw new IndexOutOfBoundsException();
        }
        demand(what >= 0 && what <= 2);
        return searched.get(k)[what];
    }

    final Map<Cubic, Integer> counts = new HashMap<>();

    int countOf(int n) {
        Cubic c = cubicAt(n);
        demand(!c.whole());
        return counts.computeIfAbsent(c, Reference::workOutCount);
    }

    static int workOutCount(Cubic c) {
        boolean[] squares = squares(c.p);
        int all = 1;
        for (long x = 0; x < c.p; x++) {
            long value = (x * x % c.p * x + c.a * x + c.b) % c.p;
            all += value == 0 ? 1 : squares[(int) value] ? 2 : 0;
        }
        return all;
    }

    int count(int n) {
        return countOf(n);
    }

    long over(int n, int k) {
        int all = countOf(n);
        demand(k >= 1 && k <= 3);
        BigInteger p = BigInteger.valueOf(cubicAt(n).p);
        BigInteger t = p.add(BigInteger.ONE).subtract(BigInteger.valueOf(all));
        BigInteger[] u = new BigInteger[4];
        u[0] = BigInteger.TWO;
        u[1] = t;
        u[2] = t.multiply(u[1]).subtract(p.multiply(u[0]));
        u[3] = t.multiply(u[2]).subtract(p.multiply(u[1]));
        return p.pow(k).add(BigInteger.ONE).subtract(u[k]).longValueExact();
    }

    Cubic listedCubic(int n) {
        Cubic c = cubicAt(n);
        demand(!c.whole() && c.p <= 2000);
        return c;
    }

    final Map<Integer, List<Pt>> lists = new HashMap<>();

    List<Pt> listOf(int n) {
        return lists.computeIfAbsent(n, this::workOutList);
    }

    List<Pt> workOutList(int n) {
        Cubic c = cubics.get(n);
        List<Pt> list = new ArrayList<>();
        list.add(new Pt(n, null, null));
        for (long x = 0; x < c.p; x++) {
            long value = (x * x % c.p * x + c.a * x + c.b) % c.p;
            for (long y = 0; y < c.p; y++) {
                if (y * y % c.p == value) {
                    list.add(new Pt(n, Frac.of(x), Frac.of(y)));
                }
            }
        }
        return list;
    }

    int list(int n, int k) {
        listedCubic(n);
        List<Pt> list = listOf(n);
        return k < 0 || k >= list.size() ? -1 : keep(list.get(k));
    }

    /** n, m and the two makers; the second may be missing. */
    record Group(int n, int m, Pt first, Pt second) { }

    final Map<Integer, Group> groups = new HashMap<>();

    Group workOutGroup(int c) {
        List<Pt> list = listOf(c);
        int n = 0;
        for (Pt p : list) {
            n = Math.max(n, orderOf(p));
        }
        int m = list.size() / n;
        Pt first = null;
        for (Pt p : list) {
            if (first == null && orderOf(p) == n) {
                first = p;
            }
        }
        List<Pt> ofFirst = new ArrayList<>();
        for (Pt p = first; !p.far(); p = sum(p, first)) {
            ofFirst.add(p);
        }
        java.util.Set<Pt> reached = new java.util.HashSet<>(ofFirst);
        for (Pt p : list) {
            if (orderOf(p) != m) {
                continue;
            }
            boolean apart = true;
            for (Pt q = p; !q.far(); q = sum(q, p)) {
                apart &= !reached.contains(q);
            }
            if (apart) {
                return new Group(n, m, first, p);
            }
        }
        return new Group(n, m, first, null);
    }

    int group(int c, int what) {
        listedCubic(c);
        demand(what >= 0 && what <= 3);
        Group g = groups.computeIfAbsent(c, this::workOutGroup);
        if (what < 2) {
            return what == 0 ? g.n : g.m;
        }
        Pt maker = what == 2 ? g.first : g.second;
        return maker == null ? -1 : keep(maker);
    }

    static long usable(long value) {
        if (value == 0) {
            throw new Unusable();
        }
        return value;
    }

    long line(Pt a, Pt b, Pt r, Cubic c) {
        if (r.far()) {
            throw new Unusable();
        }
        if (a.far() && b.far()) {
            return 1;
        }
        if (a.far() || b.far()) {
            Pt only = a.far() ? b : a;
            return usable(mod(num(r.x) - num(only.x), c.p));
        }
        if (sum(a, b).far()) {
            return usable(mod(num(r.x) - num(a.x), c.p));
        }
        long s = num(slope(a, b, c));
        return usable(mod(num(r.y) - num(a.y) - s * mod(num(r.x) - num(a.x), c.p), c.p));
    }

    long upright(Pt a, Pt r, Cubic c) {
        if (r.far()) {
            throw new Unusable();
        }
        return a.far() ? 1 : usable(mod(num(r.x) - num(a.x), c.p));
    }

    long f(Pt p, Pt r, int n, Cubic c) {
        long f = 1;
        Pt t = p;
        String digits = Integer.toBinaryString(n);
        for (int i = 1; i < digits.length(); i++) {
            Pt twice = sum(t, t);
            f = f * f % c.p * line(t, t, r, c) % c.p * inverse(upright(twice, r, c), c.p) % c.p;
            t = twice;
            if (digits.charAt(i) == '1') {
                Pt more = sum(t, p);
                f = f * line(t, p, r, c) % c.p * inverse(upright(more, r, c), c.p) % c.p;
                t = more;
            }
        }
        return f;
    }

    int pair(int one, int two, int n) {
        Pt p = pointAt(one);
        Pt q = pointAt(two);
        demand(p.cubic == q.cubic);
        Cubic c = listedCubic(p.cubic);
        demand(n >= 2 && n <= 1000000 && n % c.p != 0);
        demand(times(p, (long) n).far() && times(q, (long) n).far());
        if (p.far() || q.far() || p.equals(q)) {
            return 1;
        }
        for (Pt s : listOf(p.cubic)) {
            try {
                Pt back = mirrorOf(s);
                long above = f(p, sum(q, s), n, c) * f(q, back, n, c) % c.p;
                long below = f(p, s, n, c) * f(q, sum(p, back), n, c) % c.p;
                return (int) (above * inverse(below, c.p) % c.p);
            } catch (Unusable e) {
                continue;
            }
        }
        return -1;
    }

    static BigInteger[] big(long... parts) {
        BigInteger[] row = new BigInteger[parts.length];
        for (int i = 0; i < parts.length; i++) {
            row[i] = BigInteger.valueOf(parts[i]);
        }
        return row;
    }

    static BigInteger[] product(BigInteger[]... rows) {
        BigInteger[] all = big(1);
        for (BigInteger[] row : rows) {
            BigInteger[] next = new BigInteger[all.length + row.length - 1];
            Arrays.fill(next, BigInteger.ZERO);
            for (int i = 0; i < all.length; i++) {
                for (int j = 0; j < row.length; j++) {
                    next[i + j] = next[i + j].add(all[i].multiply(row[j]));
                }
            }
            all = next;
        }
        return all;
    }

    static BigInteger[] less(BigInteger[] x, BigInteger[] y) {
        BigInteger[] left = new BigInteger[Math.max(x.length, y.length)];
        for (int i = 0; i < left.length; i++) {
            left[i] = (i < x.length ? x[i] : BigInteger.ZERO).subtract(i < y.length ? y[i] : BigInteger.ZERO);
        }
        return left;
    }

    /** Over whole numbers, not over rests: the rests are taken at the very end. */
    static BigInteger[] divisionPolynomial(long a, long b, int n) {
        BigInteger[] c = big(b, a, 0, 1);
        BigInteger[][] f = new BigInteger[12][];
        f[1] = big(1);
        f[2] = big(2);
        f[3] = big(-a * a, 12 * b, 6 * a, 0, 3);
        f[4] = big(4 * (-8 * b * b - a * a * a), -16 * a * b, -20 * a * a, 80 * b, 20 * a, 0, 4);
        for (int k = 5; k <= n; k++) {
            int m = k / 2;
            if (k % 2 == 1) {
                BigInteger[] left = product(f[m + 2], f[m], f[m], f[m]);
                BigInteger[] right = product(f[m - 1], f[m + 1], f[m + 1], f[m + 1]);
                f[k] = m % 2 == 0 ? less(product(left, c, c), right) : less(left, product(right, c, c));
            } else {
                BigInteger[] inner = less(product(f[m + 2], f[m - 1], f[m - 1]), product(f[m - 2], f[m + 1], f[m + 1]));
                f[k] = product(f[m], inner);
                for (int i = 0; i < f[k].length; i++) {
                    if (f[k][i].testBit(0)) {
                        throw new AssertionError("not even");
                    }
                    f[k][i] = f[k][i].shiftRight(1);
                }
            }
        }
        return f[n];
    }

    int polynomial(int n, int k) {
        Cubic c = listedCubic(n);
        demand(k >= 1 && k <= 11);
        BigInteger[] row = divisionPolynomial(c.a, c.b, k);
        polynomial = new long[row.length];
        polynomialPrime = c.p;
        int degree = -1;
        for (int i = 0; i < row.length; i++) {
            polynomial[i] = row[i].mod(BigInteger.valueOf(c.p)).longValue();
            degree = polynomial[i] != 0 ? i : degree;
        }
        return degree;
    }

    int coefficient(int k) {
        return k < 0 || k >= polynomial.length ? 0 : (int) polynomial[k];
    }

    int root(int k) {
        boolean empty = true;
        for (long part : polynomial) {
            empty &= part == 0;
        }
        if (empty) {
            return -1;
        }
        int at = 0;
        for (long x = 0; x < polynomialPrime; x++) {
            long value = 0;
            long power = 1;
            for (long part : polynomial) {
                value = (value + part * power) % polynomialPrime;
                power = power * x % polynomialPrime;
            }
            if (value == 0) {
                if (at == k) {
                    return (int) x;
                }
                at++;
            }
        }
        return -1;
    }

    /** The other cubic, v and u; or what led() answers in place of it. */
    record Led(Cubic cubic, Frac v, Frac u, int answer) { }

    Led ledBy(Pt p) {
        Cubic c = cubics.get(p.cubic);
        int order = orderOf(p);
        if (order != 2 && order != 3) {
            return new Led(null, null, null, -1);
        }
        BigInteger far = BigInteger.valueOf(1000000);
        if (c.whole() && (!p.x.isWhole() || !p.y.isWhole() || p.x.top.abs().compareTo(far) > 0
                || p.y.top.abs().compareTo(far) > 0)) {
            return new Led(null, null, null, -1);
        }
        Frac g = plus(by(Frac.of(3), by(p.x, p.x, c), c), Frac.of(c.a), c);
        Frac v = order == 2 ? g : by(Frac.of(2), g, c);
        Frac u = order == 2 ? Frac.of(0) : by(Frac.of(4), by(p.y, p.y, c), c);
        Frac a = minus(Frac.of(c.a), by(Frac.of(5), v, c), c);
        Frac b = minus(Frac.of(c.b), by(Frac.of(7), plus(u, by(p.x, v, c), c), c), c);
        BigInteger most = BigInteger.valueOf(10000);
        if (c.whole() && (a.top.abs().compareTo(most) > 0 || b.top.abs().compareTo(most) > 0)) {
            return new Led(null, null, null, -2);
        }
        Cubic other = new Cubic(num(a), num(b), c.p);
        return new Led(other, v, u, worth(other) == 0 ? -2 : 0);
    }

    int led(int p) {
        Led led = ledBy(pointAt(p));
        return led.answer < 0 ? led.answer : keep(led.cubic);
    }

    int through(int p, int q) {
        Pt by = pointAt(p);
        Pt pt = pointAt(q);
        Led led = ledBy(by);
        if (led.answer < 0) {
            return led.answer;
        }
        if (by.cubic != pt.cubic) {
            return -3;
        }
        Cubic c = cubics.get(by.cubic);
        Frac x = null;
        Frac y = null;
        if (!pt.far() && !pt.equals(by) && !pt.equals(mirrorOf(by))) {
            Frac e = minus(pt.x, by.x, c);
            Frac e2 = by(e, e, c);
            x = plus(plus(pt.x, over(led.v, e, c), c), over(led.u, e2, c), c);
            Frac inner = minus(minus(Frac.of(1), over(led.v, e2, c), c),
                    over(by(Frac.of(2), led.u, c), by(e2, e, c), c), c);
            y = by(pt.y, inner, c);
            if (x.isSpent() || y.isSpent()) {
                return -4;
            }
        }
        boolean newCubic = !cubics.contains(led.cubic);
        if (newCubic && (cubics.size() == 40 || points.size() == 400)) {
            throw new IllegalStateException();
        }
        return keep(new Pt(keep(led.cubic), x, y));
    }

    int counted(int what) {
        return what == 0 ? cubics.size() : what == 1 ? points.size() : what == 2 ? page.length() : -1;
    }

    int octet(int k) {
        return k < 0 || k >= page.length() ? -1 : page.charAt(k);
    }
}
