/** What a test holds an answer against: a number, or an exception of exactly one class. */
final class Due {
    interface Call {
        long run();
    }

    private static int wrong;

    private Due() {
    }

    static void is(long want, String name, Call call) {
        same(Long.toString(want), answer(call), name);
    }

    /** A number, or the name of the exception that came instead. */
    static String answer(Call call) {
        try {
            return Long.toString(call.run());
        } catch (RuntimeException e) {
            return e.getClass().getSimpleName();
        }
    }

    static void index(String name, Call call) {
        fails("IndexOutOfBoundsException", name, call);
    }

    static void argument(String name, Call call) {
        fails("IllegalArgumentException", name, call);
    }

    static void state(String name, Call call) {
        fails("IllegalStateException", name, call);
    }

    private static void fails(String want, String name, Call call) {
        same(want, answer(call), name);
    }

    static void text(String want, String name, CubicBench bench) {
        StringBuilder got = new StringBuilder();
        for (int k = 0; k < 1000 && bench.octet(k) != CubicBench.NONE; k++) {
            got.append((char) bench.octet(k));
        }
        same(want, got.toString(), name);
        is(want.length(), name + ": counted(2)", () -> bench.counted(2));
    }

    static void same(String want, String got, String name) {
        if (!want.equals(got)) {
            wrong++;
            System.out.println(name + " answered " + got + ", due is " + want);
        }
    }

    static void end() {
        System.exit(wrong == 0 ? 0 : 1);
    }
}
