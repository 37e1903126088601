/** What a test holds an answer against: a number, or an exception of exactly one class. */
final class Due {
    interface Call {
        long run();
    }

    private static int wrong;

    private Due() {
    }

    static void is(long want, String name, Call call) {
        String got;
        try {
            got = Long.toString(call.run());
        } catch (RuntimeException e) {
            got = e.getClass().getSimpleName();
        }
        same(Long.toString(want), got, name);
    }

    static void index(String name, Call call) {
        fails("IndexOutOfBoundsException", name, call);
    }

    static void argument(String name, Call call) {
        fails("IllegalArgumentException", name, call);
    }

    static void state(String name, Call call) {
        fails("IllegalStateException", name, call);
    }

    private static void fails(String want, String name, Call call) {
        String got;
        try {
            got = Long.toString(call.run());
        } catch (RuntimeException e) {
            got = e.getClass().getSimpleName();
        }
        same(want, got, name);
    }

    static void text(String want, String name, CubicBench bench) {
        StringBuilder got = new StringBuilder();
        for (int k = 0; bench.octet(k) != CubicBench.NONE; k++) {
            got.append((char) bench.octet(k));
        }
        same(want, got.toString(), name);
        is(want.length(), name + ": counted(2)", () -> bench.counted(2));
    }

    static void same(String want, String got, String name) {
        if (!want.equals(got)) {
            wrong++;
            System.out.println(name + " answered " + got + ", due is " + want);
        }
    }

    static void end() {
        System.exit(wrong == 0 ? 0 : 1);
    }
}
