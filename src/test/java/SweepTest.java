import java.util.Random;

/** Single promises swept over many cubics, each held against the plain Reference. */
public final class SweepTest {
    private static final Random RANDOM = new Random(20261116);
    private static int wrong;

    private CubicBench bench;
    private Reference plain;

    public static void main(String[] args) {
        int scale = args.length > 0 ? Integer.parseInt(args[0]) : 1;
        SweepTest sweep = new SweepTest();
        sweep.counts(60 * scale);
        sweep.groupsAndPairs(60 * scale);
        sweep.polynomials(25 * scale);
        sweep.backs(60 * scale);
        sweep.sums(60 * scale);
        sweep.leads(60 * scale);
        sweep.searches(20 * scale);
        sweep.orders(40 * scale);
        System.exit(wrong == 0 ? 0 : 1);
    }

    private void renew() {
        bench = new CubicBench();
        plain = new Reference();
    }

    private static void due(String call, long got, long want) {
        if (got != want) {
            wrong++;
            System.out.println(call + " answered " + got + ", due is " + want);
        }
    }

    private static int prime(int least, int most) {
        while (true) {
            int p = least + RANDOM.nextInt(most - least + 1);
            if (java.math.BigInteger.valueOf(p).isProbablePrime(50)) {
                return p;
            }
        }
    }

    /** A cubic of rests in both, or -1. */
    private int rests(int a, int b, int p) {
        int c = bench.cubic(a, b);
        due("cubic(" + a + ", " + b + ")", c, plain.cubic(a, b));
        if (c < 0) {
            return -1;
        }
        int r = bench.rest(c, p);
        due("rest(.., " + p + ") of " + a + ", " + b, r, plain.rest(c, p));
        return r;
    }

    private static int wide() {
        return RANDOM.nextInt(20001) - 10000;
    }

    private void counts(int runs) {
        for (int i = 0; i < runs; i++) {
            renew();
            int p = i % 20 == 0 ? 1000003 : i % 3 == 0 ? prime(2001, 3000) : i % 3 == 1 ? prime(5, 1000003) : prime(5, 5000);
            int a = i % 7 == 0 ? 0 : wide();
            int b = i % 7 == 1 ? 0 : wide();
            int c = rests(a, b, p);
            if (c < 0) {
                continue;
            }
            due("count of " + a + ", " + b + " by " + p, bench.count(c), plain.count(c));
            int t = bench.turned(c);
            due("turned of " + a + ", " + b + " by " + p, t, plain.turned(c));
            due("count of turned " + a + ", " + b + " by " + p, bench.count(t), 2L * p + 2 - bench.count(c));
            for (int k = 1; k <= 3; k++) {
                due("over " + k + " of " + a + ", " + b + " by " + p, bench.over(c, k), plain.over(c, k));
            }
            for (int what = 0; what < 5; what++) {
                due("about(" + what + ") of " + a + ", " + b + " by " + p, bench.about(t, what), plain.about(t, what));
            }
        }
    }

    private void groupsAndPairs(int runs) {
        for (int i = 0; i < runs; i++) {
            renew();
            int p = i % 8 == 0 ? prime(500, 1999) : prime(5, 90);
            int a = i % 5 == 0 ? 0 : i % 5 == 1 ? -1 : RANDOM.nextInt(p);
            int b = i % 5 == 1 ? 0 : RANDOM.nextInt(p);
            int c = rests(a, b, p);
            if (c < 0) {
                continue;
            }
            String on = " of " + a + ", " + b + " by " + p;
            for (int what = 0; what < 4; what++) {
                due("group(" + what + ")" + on, bench.group(c, what), plain.group(c, what));
            }
            int n = plain.group(c, 0);
            int first = plain.group(c, 2);
            int second = plain.group(c, 3);
            int third = bench.add(first, second);
            due("sum of makers" + on, third, plain.add(first, second));
            for (int k = 0; k < 6; k++) {
                int at = RANDOM.nextInt(plain.count(c) + 2) - 1;
                due("list(" + at + ")" + on, bench.list(c, at), plain.list(c, at));
            }
            pairs(n, on);
            if (plain.group(c, 1) > 1) {
                smallPairs(first, second, n, plain.group(c, 1), on);
            }
        }
    }

    private void pairs(int n, String on) {
        int held = Math.min(bench.counted(1), 24);
        for (int k = 0; k < 12; k++) {
            int p = RANDOM.nextInt(held);
            int q = RANDOM.nextInt(held);
            if (n % plain.cubics.get(1).p() != 0 && n > 1) {
                due("pair(" + p + ", " + q + ", " + n + ")" + on, bench.pair(p, q, n), plain.pair(p, q, n));
            }
        }
    }

    private void smallPairs(int first, int second, int n, int m, String on) {
        int p = bench.times(first, n / m);
        plain.keep(plain.times(plain.points.get(first), (long) (n / m)));
        due("pair of makers by " + m + on, bench.pair(p, second, m), plain.pair(p, second, m));
        due("pair of makers back by " + m + on, bench.pair(second, p, m), plain.pair(second, p, m));
    }

    private void polynomials(int runs) {
        for (int i = 0; i < runs; i++) {
            renew();
            int p = i % 3 == 0 ? prime(5, 13) : prime(5, 1999);
            int a = wide();
            int b = wide();
            int c = rests(a, b, p);
            if (c < 0) {
                continue;
            }
            for (int n = 1; n <= 11; n++) {
                if (n == 7) {
                    renew();
                    rests(a, b, p);
                }
                String on = " of polynomial " + n + " of " + plain.cubics.get(c);
                due("degree" + on, bench.polynomial(c, n), plain.polynomial(c, n));
                for (int k = -1; k < 66; k++) {
                    due("coefficient " + k + on, bench.coefficient(k), plain.coefficient(k));
                }
                for (int k = -1; k < 3; k++) {
                    due("root " + k + on, bench.root(k), plain.root(k));
                }
            }
        }
    }

    private void backs(int runs) {
        int[][] rich = {{0, 1}, {-43, 166}, {-219, 1654}, {-27, 8694}, {-351, 1890}, {4, 0}, {-1, 0}, {0, -432}, {0, 4},
            {10000, 10000}, {-10000, 10000}, {-10000, 0}, {10000, -10000}, {0, 10000}, {0, 8000}, {5, 6}, {-7, -6},
            {1, 2}, {-3483, -9999}, {-1323, 6156}, {-1947, 32}, {-6075, 0}, {-8100, 0}, {-9900, 4}, {2500, 0}, {324, 0}};
        for (int i = 0; i < runs; i++) {
            renew();
            int a = i < rich.length ? rich[i][0] : wide();
            int b = i < rich.length ? rich[i][1] : i % 3 == 0 ? 0 : wide();
            if (i >= rich.length && i % 3 == 1) {
                int x = RANDOM.nextInt(40) - 20;
                a = RANDOM.nextInt(400) - 200;
                b = -x * x * x - a * x;
            }
            if (b < -10000 || b > 10000 || plain.cubic(a, b) < 0) {
                continue;
            }
            bench.cubic(a, b);
            int all = plain.back(0);
            due("back of " + a + ", " + b, bench.back(0), all);
            for (int k = -1; k <= all; k++) {
                due("backAt " + k + " of " + a + ", " + b, bench.backAt(0, k), plain.backAt(0, k));
            }
            for (int k = 0; k < all; k++) {
                due("order of " + k + " of " + a + ", " + b, bench.order(k), plain.order(k));
            }
        }
    }

    /** As many points as there are calls left for, the latest first. */
    private void samePrints(String on, int calls) {
        int left = calls;
        for (int p = plain.counted(1) - 1; p >= 0; p--) {
            for (int what = 0; what < 2; what++) {
                int bytes = plain.print(p, what);
                left -= plain.page.length() + 2;
                if (left < 0) {
                    return;
                }
                due("print(" + p + ", " + what + ")" + on, bench.print(p, what), bytes);
                for (int k = 0; k <= plain.page.length(); k++) {
                    due("octet(" + k + ") of print(" + p + ", " + what + ")" + on, bench.octet(k), plain.octet(k));
                }
            }
        }
    }

    private void sums(int runs) {
        for (int i = 0; i < runs; i++) {
            renew();
            int x = RANDOM.nextInt(41) - 20;
            int y = RANDOM.nextInt(60);
            int z = RANDOM.nextInt(20) + 1;
            int a = i % 2 == 0 ? RANDOM.nextInt(20) - 10 : RANDOM.nextInt(2000) - 1000;
            int b = y * y - x * x * x - a * x;
            if (b < -10000 || b > 10000 || plain.cubic(a, b) < 0) {
                continue;
            }
            bench.cubic(a, b);
            String on = " of " + a + ", " + b;
            bench.point(0, x, y);
            plain.point(0, x, y);
            for (int s = -60; s < 100; s++) {
                long value = (long) s * s * s + a * s + b;
                long t = Math.round(Math.sqrt(Math.max(0, value)));
                if (t * t == value && plain.counted(1) < 6) {
                    due("point" + on, bench.point(0, s, (int) t), plain.point(0, s, (int) t));
                }
            }
            for (int k = 0; k < 30; k++) {
                int p = RANDOM.nextInt(plain.counted(1));
                int q = RANDOM.nextInt(plain.counted(1));
                int n = RANDOM.nextInt(41) - 20;
                int before = plain.counted(1);
                due("add(" + p + ", " + q + ")" + on, bench.add(p, q), plain.add(p, q));
                due("times(" + p + ", " + n + ")" + on, bench.times(p, n), plain.times(p, n));
                due("mirror(" + p + ")" + on, bench.mirror(p), plain.mirror(p));
                due("points behind " + before + on, bench.counted(1), plain.counted(1));
            }
            samePrints(on, 370);
        }
    }

    private void leads(int runs) {
        int[][] by = {{0, 1}, {0, 4}, {-1, 0}, {-7, 6}, {-2, 1}, {0, 16}, {-25, 0}, {0, 9}, {0, 225}, {6, -7}, {-36, 0}, {-12, 65 - 37}};
        for (int i = 0; i < runs; i++) {
            renew();
            int a = i < by.length ? by[i][0] : RANDOM.nextInt(80) - 40;
            int b = i < by.length ? by[i][1] : 0;
            int x = RANDOM.nextInt(20) - 10;
            if (i >= by.length && i % 2 == 0) {
                b = -x * x * x - a * x;
            } else if (i >= by.length) {
                a = 0;
                b = (1 + RANDOM.nextInt(90)) * (1 + RANDOM.nextInt(90));
                b = i % 4 == 1 ? b : (int) Math.pow(1 + RANDOM.nextInt(99), 2);
            }
            if (b < -10000 || b > 10000 || plain.cubic(a, b) < 0) {
                continue;
            }
            bench.cubic(a, b);
            for (int k = 0; k < plain.back(0); k++) {
                bench.backAt(0, k);
                plain.backAt(0, k);
            }
            int fixed = plain.counted(1);
            for (int s = -60; s < 200 && plain.counted(1) < fixed + 4; s++) {
                long value = (long) s * s * s + (long) a * s + b;
                long t = Math.round(Math.sqrt(Math.max(0, value)));
                if (t * t == value) {
                    due("point", bench.point(0, s, (int) t), plain.point(0, s, (int) t));
                }
            }
            int some = plain.counted(1);
            for (int k = 0; k < 40; k++) {
                int p = RANDOM.nextInt(some);
                int q = RANDOM.nextInt(plain.counted(1));
                int n = RANDOM.nextInt(12) + 2;
                String on = " of " + a + ", " + b;
                due("led(" + p + ")" + on, bench.led(p), plain.led(p));
                due("through(" + p + ", " + q + ")" + on, bench.through(p, q), plain.through(p, q));
                due("times(" + q + ", " + n + ")" + on, bench.times(q, n), plain.times(q, n));
                due("cubics" + on, bench.counted(0), plain.counted(0));
            }
            samePrints(" behind leads of " + a + ", " + b, 300);
            restLeads(a, b);
        }
    }

    private void restLeads(int a, int b) {
        renew();
        int p = RANDOM.nextInt(4) == 0 ? prime(2001, 300000) : prime(5, 100);
        int c = rests(a, b, p);
        if (c < 0) {
            return;
        }
        int all = plain.count(c);
        for (int k = 0; k < 12; k++) {
            int x = RANDOM.nextInt(p);
            int y = k == 0 ? 0 : RANDOM.nextInt(p);
            for (int tries = 0; tries < 3000 && !isOn(c, x, y); tries++) {
                x = RANDOM.nextInt(p);
                y = tries % 2 == 0 ? 0 : RANDOM.nextInt(p);
            }
            due("point by " + p, bench.point(c, x, y), plain.point(c, x, y));
        }
        for (int q = plain.counted(1) - 1; q >= 0; q--) {
            int n = all % 3 == 0 ? all / 3 : all / 2;
            due("times by " + p, bench.times(q, n), plain.times(q, n));
        }
        for (int k = 0; k < 60 && plain.counted(1) > 0; k++) {
            int one = RANDOM.nextInt(plain.counted(1));
            int two = RANDOM.nextInt(plain.counted(1));
            String on = " of " + a + ", " + b + " by " + p;
            due("led(" + one + ")" + on, bench.led(one), plain.led(one));
            due("through(" + one + ", " + two + ")" + on, bench.through(one, two), plain.through(one, two));
        }
    }

    private boolean isOn(int c, long x, long y) {
        Reference.Cubic on = plain.cubics.get(c);
        return (y * y - x * x % on.p() * x - on.a() * x - on.b()) % on.p() == 0;
    }

    private void searches(int runs) {
        for (int i = 0; i < runs; i++) {
            renew();
            int a = i % 2 == 0 ? RANDOM.nextInt(40) - 20 : wide();
            int b = i % 2 == 0 ? RANDOM.nextInt(40) - 20 : wide();
            int bound = i % 3 == 0 ? 400 : 1 + RANDOM.nextInt(400);
            if (plain.cubic(a, b) < 0) {
                continue;
            }
            bench.cubic(a, b);
            int all = plain.search(0, bound);
            due("search of " + a + ", " + b + " by " + bound, bench.search(0, bound), all);
            for (int k = 0; k < all; k++) {
                for (int what = 0; what < 3; what++) {
                    due("found(" + k + ", " + what + ") of " + a + ", " + b, bench.found(k, what), plain.found(k, what));
                }
            }
        }
    }

    private void orders(int runs) {
        for (int i = 0; i < runs; i++) {
            renew();
            int p = i % 3 == 0 ? prime(5, 60) : i % 3 == 1 ? prime(5, 3000) : prime(500000, 1000003);
            int c = rests(wide(), i % 5 == 0 ? 0 : wide(), p);
            if (c < 0) {
                continue;
            }
            boolean counted = i % 2 == 0 && bench.count(c) > 0;
            Reference.Cubic cubic = plain.cubics.get(c);
            for (int k = 0; k < 40; k++) {
                long x = RANDOM.nextInt(p);
                long value = (x * x % p * x + cubic.a() * x + cubic.b()) % p;
                for (long y = 0; y < p; y++) {
                    if (y * y % p == value) {
                        due("point by " + p, bench.point(c, (int) x, (int) y), plain.point(c, (int) x, (int) y));
                        int q = bench.counted(1) - 1;
                        due("order of " + x + ", " + y + " of " + cubic + counted, bench.order(q), plain.order(q));
                        break;
                    }
                }
            }
        }
    }
}
