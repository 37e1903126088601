import java.util.Random;

/** All promises: long runs of calls drawn by a fixed seed, held against the plain Reference. */
public final class ReferenceTest {
    private static final int[] PRIMES = {5, 7, 11, 13, 17, 19, 23, 29, 31, 37, 41, 43, 61, 97, 101, 127, 211, 311,
        499, 997, 1009, 1999, 2003, 10007, 65537, 99991, 1000003};
    private static final int[] NO_PRIMES = {-7, 0, 1, 2, 3, 4, 9, 25, 1000001, 1000033, Integer.MIN_VALUE, Integer.MAX_VALUE};
    private static final int[][] RICH = {{0, 1}, {-1, 0}, {0, 4}, {4, 0}, {-43, 166}, {-219, 1654}, {0, -432}, {-2, 1},
        {0, 16}, {1, 0}, {-36, 0}, {0, -2}, {-7, 10}, {-25, 0}, {0, 17}, {5805 / 5, 100}, {-58347 / 9, 111}, {-15, 22},
        {0, 27}, {0, -27}, {-351, 1890}, {-27, 8694}, {-4, 4}, {1, 2}, {-5, 4}, {6, -7}, {0, 8}, {-11, 14}};

    private final Random random;
    private final CubicBench bench = new CubicBench();
    private final Reference plain = new Reference();
    private final int greatestPrime;
    private int wrong;
    /** An object is used for 512 calls at most, and looking at its page takes some too. */
    private int calls;

    private ReferenceTest(long seed) {
        random = new Random(seed);
        greatestPrime = seed % 4 == 0 ? 27 : 18 + (int) (seed % 4);
    }

    public static void main(String[] args) {
        int runs = args.length > 0 ? Integer.parseInt(args[0]) : 16;
        int first = args.length > 1 ? Integer.parseInt(args[1]) : 1;
        int wrong = 0;
        for (int seed = first; seed < first + runs; seed++) {
            wrong += new ReferenceTest(seed).run(seed);
        }
        if (args.length > 2) {
            System.out.println(TALLY.toString().replace(", ", "\n"));
        }
        System.exit(wrong == 0 ? 0 : 1);
    }

    private int run(long seed) {
        for (int i = 0; calls < 505 && wrong == 0; i++) {
            step(seed, i);
        }
        return wrong;
    }

    private int below(int n) {
        return random.nextInt(n);
    }

    private int anyCubic() {
        int held = plain.cubics.size();
        return below(40) == 0 || held == 0 ? below(5) == 0 ? -1 : held : below(held);
    }

    private int anyPoint() {
        int held = plain.points.size();
        return below(60) == 0 || held == 0 ? below(5) == 0 ? -1 : held : below(held);
    }

    /** Mostly of the same cubic, or there would be few sums. */
    private int mate(int p) {
        for (int i = 0; i < 40; i++) {
            int q = anyPoint();
            if (p < 0 || p >= plain.points.size() || q < 0 || q >= plain.points.size()
                    || plain.points.get(p).cubic() == plain.points.get(q).cubic()) {
                return q;
            }
        }
        return anyPoint();
    }

    private void step(long seed, int i) {
        String name = NAMES[below(NAMES.length)];
        if (i < 4) {
            name = "cubic";
        } else if (i < 8) {
            name = "rest";
        }
        int[] with = arguments(name);
        String got = answer(true, name, with);
        String due = answer(false, name, with);
        if (!got.equals(due)) {
            wrong++;
            System.out.println("seed " + seed + ", call " + i + ": " + name + java.util.Arrays.toString(with)
                    + " answered " + got + ", due is " + due);
        }
        tally(name, due);
        if (name.equals("print") && below(4) == 0 && calls + plain.page.length() < 500 && !page().equals(plain.page)) {
            wrong++;
            System.out.println("seed " + seed + ", call " + i + ": printed " + page() + ", due is " + plain.page);
        }
        if (i % 10 == 0) {
            sameCounts(seed, i, name);
        }
    }

    private void sameCounts(long seed, int i, String name) {
        for (int what = 0; what < 3; what++) {
            int got = bench.counted(what);
            calls++;
            if (got != plain.counted(what)) {
                wrong++;
                System.out.println("seed " + seed + ", call " + i + ": " + name + " leaves counted(" + what + ") "
                        + got + ", due is " + plain.counted(what));
            }
        }
    }

    private String page() {
        StringBuilder text = new StringBuilder();
        for (int k = 0; k < plain.page.length(); k++) {
            text.append((char) bench.octet(k));
        }
        calls += plain.page.length();
        return text.toString();
    }

    private static final java.util.TreeMap<String, Integer> TALLY = new java.util.TreeMap<>();

    private static void tally(String name, String due) {
        String kind = due.startsWith("java") || due.startsWith("-") || due.equals("0") || due.equals("1") ? due : "other";
        TALLY.merge(name + " " + kind, 1, Integer::sum);
    }

    private static final String[] NAMES = {"cubic", "rest", "rest", "turned", "about", "far", "point", "point", "point",
        "point", "add", "add", "add", "add", "mirror", "times", "times", "times", "order", "order", "told", "print",
        "print", "print", "back", "backAt", "backAt", "backAt", "search", "found", "count", "over", "list", "list", "list",
        "group", "group", "pair", "pair", "pair", "polynomial", "coefficient", "coefficient", "root", "root", "led",
        "led", "through", "through", "through", "counted", "octet", "octet"};

    private int[] arguments(String name) {
        int odd = below(50) == 0 ? below(2) == 0 ? -1 : 7 : 0;
        switch (name) {
            case "cubic":
                return cubicArguments();
            case "rest":
                return new int[] {anyCubic(), below(20) == 0 ? NO_PRIMES[below(NO_PRIMES.length)] : PRIMES[below(greatestPrime)]};
            case "turned": case "far": case "back": case "count":
                return new int[] {anyCubic()};
            case "about":
                return new int[] {anyCubic(), odd == 0 ? below(5) : odd};
            case "point":
                return pointArguments();
            case "add": case "through":
                int p = anyPoint();
                return new int[] {p, below(10) == 0 ? anyPoint() : mate(p)};
            case "mirror": case "order": case "led":
                return new int[] {anyPoint()};
            case "times":
                return new int[] {anyPoint(), below(20) == 0 ? random.nextInt() : below(43) - 21};
            case "told": case "print":
                return new int[] {anyPoint(), odd == 0 ? below(2) : odd};
            case "backAt":
                return new int[] {anyCubic(), below(10) - 1};
            case "search":
                return new int[] {anyCubic(), below(20) == 0 ? below(500) - 50 : 1 + below(60)};
            case "found":
                return new int[] {below(12) - 1, odd == 0 ? below(3) : odd};
            case "over":
                return new int[] {anyCubic(), odd == 0 ? 1 + below(3) : below(2) * 4};
            case "list":
                return new int[] {anyCubic(), below(60) - 1};
            case "group":
                return new int[] {anyCubic(), odd == 0 ? below(4) : odd};
            case "pair":
                return pairArguments();
            case "polynomial":
                return new int[] {anyCubic(), odd == 0 ? 1 + below(11) : below(2) * 12};
            case "coefficient":
                return new int[] {below(66) - 2};
            case "root":
                return new int[] {below(8) - 1};
            case "counted":
                return new int[] {below(6) - 1};
            default:
                return new int[] {below(240) - 1};
        }
    }

    private int[] cubicArguments() {
        if (below(25) == 0) {
            return new int[] {below(2) == 0 ? 10001 : -3, below(2) == 0 ? 2 : -10001};
        }
        if (below(2) == 0) {
            return RICH[below(RICH.length)].clone();
        }
        int x = below(20) - 10;
        int y = below(20);
        int a = below(40) - 20;
        int b = y * y - x * x * x - a * x;
        return new int[] {a, b};
    }

    private int[] pointArguments() {
        int c = anyCubic();
        if (c < 0 || c >= plain.cubics.size() || below(10) == 0) {
            return new int[] {c, below(2000100) - 1000050, below(2000100) - 1000050};
        }
        Reference.Cubic cubic = plain.cubics.get(c);
        for (int i = 0; i < 200; i++) {
            long x = cubic.whole() ? below(80) - 30 : random.nextInt((int) cubic.p());
            long value = x * x * x + cubic.a() * x + cubic.b();
            if (cubic.whole()) {
                long y = Math.round(Math.sqrt(Math.max(0, value)));
                if (y * y == value) {
                    return new int[] {c, (int) x, (int) (below(2) == 0 ? y : -y)};
                }
                continue;
            }
            value = Reference.mod(x * x % cubic.p() * x + cubic.a() * x + cubic.b(), cubic.p());
            for (long y = 0; y < cubic.p() && cubic.p() < 100000; y++) {
                if (y * y % cubic.p() == value) {
                    return new int[] {c, (int) x, (int) y};
                }
            }
        }
        return new int[] {c, below(7), below(7)};
    }

    private int[] pairArguments() {
        int p = anyPoint();
        int q = mate(p);
        int n = below(1000) + 1;
        if (p >= 0 && p < plain.points.size()) {
            int c = plain.points.get(p).cubic();
            if (!plain.cubics.get(c).whole() && below(4) != 0) {
                int all = plain.countOf(c);
                n = below(3) == 0 ? all : all * (1 + below(3));
                if (q >= 0 && q < plain.points.size() && plain.points.get(q).cubic() == c && below(2) == 0) {
                    int one = plain.order(p);
                    int two = plain.order(q);
                    n = one * two / gcd(one, two);
                }
            }
        }
        return new int[] {p, q, below(40) == 0 ? 1000001 : n};
    }

    private static int gcd(int x, int y) {
        return y == 0 ? x : gcd(y, x % y);
    }

    private String answer(boolean ofBench, String name, int[] with) {
        try {
            return Long.toString(ofBench ? callBench(name, with) : callPlain(name, with));
        } catch (IndexOutOfBoundsException | IllegalArgumentException | IllegalStateException e) {
            return e.getClass().getName();
        }
    }

    private long callBench(String name, int[] w) {
        calls++;
        switch (name) {
            case "cubic": return bench.cubic(w[0], w[1]);
            case "rest": return bench.rest(w[0], w[1]);
            case "turned": return bench.turned(w[0]);
            case "about": return bench.about(w[0], w[1]);
            case "far": return bench.far(w[0]);
            case "point": return bench.point(w[0], w[1], w[2]);
            case "add": return bench.add(w[0], w[1]);
            case "mirror": return bench.mirror(w[0]);
            case "times": return bench.times(w[0], w[1]);
            case "order": return bench.order(w[0]);
            case "told": return bench.told(w[0], w[1]);
            case "print": return bench.print(w[0], w[1]);
            case "back": return bench.back(w[0]);
            case "backAt": return bench.backAt(w[0], w[1]);
            case "search": return bench.search(w[0], w[1]);
            case "found": return bench.found(w[0], w[1]);
            case "count": return bench.count(w[0]);
            case "over": return bench.over(w[0], w[1]);
            case "list": return bench.list(w[0], w[1]);
            case "group": return bench.group(w[0], w[1]);
            case "pair": return bench.pair(w[0], w[1], w[2]);
            case "polynomial": return bench.polynomial(w[0], w[1]);
            case "coefficient": return bench.coefficient(w[0]);
            case "root": return bench.root(w[0]);
            case "led": return bench.led(w[0]);
            case "through": return bench.through(w[0], w[1]);
            case "counted": return bench.counted(w[0]);
            default: return bench.octet(w[0]);
        }
    }

    private long callPlain(String name, int[] w) {
        switch (name) {
            case "cubic": return plain.cubic(w[0], w[1]);
            case "rest": return plain.rest(w[0], w[1]);
            case "turned": return plain.turned(w[0]);
            case "about": return plain.about(w[0], w[1]);
            case "far": return plain.far(w[0]);
            case "point": return plain.point(w[0], w[1], w[2]);
            case "add": return plain.add(w[0], w[1]);
            case "mirror": return plain.mirror(w[0]);
            case "times": return plain.times(w[0], w[1]);
            case "order": return plain.order(w[0]);
            case "told": return plain.told(w[0], w[1]);
            case "print": return plain.print(w[0], w[1]);
            case "back": return plain.back(w[0]);
            case "backAt": return plain.backAt(w[0], w[1]);
            case "search": return plain.search(w[0], w[1]);
            case "found": return plain.found(w[0], w[1]);
            case "count": return plain.count(w[0]);
            case "over": return plain.over(w[0], w[1]);
            case "list": return plain.list(w[0], w[1]);
            case "group": return plain.group(w[0], w[1]);
            case "pair": return plain.pair(w[0], w[1], w[2]);
            case "polynomial": return plain.polynomial(w[0], w[1]);
            case "coefficient": return plain.coefficient(w[0]);
            case "root": return plain.root(w[0]);
            case "led": return plain.led(w[0]);
            case "through": return plain.through(w[0], w[1]);
            case "counted": return plain.counted(w[0]);
            default: return plain.octet(w[0]);
        }
    }
}
