import java.lang.reflect.InvocationTargetException;
import java.lang.reflect.Method;
import java.util.ArrayList;
import java.util.Arrays;
import java.util.List;
import java.util.Random;

/** Any numbers in any state: nothing but the exceptions of the face ever comes out, none of the machine's own. */
public final class WildTest {
    private static final int[] WILD = {Integer.MIN_VALUE, Integer.MIN_VALUE + 1, -1000001, -1000000, -10001, -401, -21, -20,
        -2, -1, 0, 1, 2, 3, 4, 5, 6, 7, 8, 9, 10, 11, 12, 13, 20, 21, 28, 31, 39, 40, 41, 63, 64, 65, 99, 100, 399, 400,
        401, 1999, 2000, 2003, 9999, 10000, 10001, 999999, 1000000, 1000001, 1000003, Integer.MAX_VALUE - 1,
        Integer.MAX_VALUE};

    public static void main(String[] args) throws IllegalAccessException {
        List<Method> calls = new ArrayList<>();
        for (Method method : CubicBench.class.getDeclaredMethods()) {
            if (java.lang.reflect.Modifier.isPublic(method.getModifiers())) {
                calls.add(method);
            }
        }
        calls.sort((one, other) -> one.getName().compareTo(other.getName()));
        Random random = new Random(7);
        for (int run = 0; run < 150; run++) {
            CubicBench bench = new CubicBench();
            furnish(bench, run);
            for (int i = 0; i < 480; i++) {
                Method call = calls.get(random.nextInt(calls.size()));
                Object[] with = new Object[call.getParameterCount()];
                for (int k = 0; k < with.length; k++) {
                    with[k] = random.nextInt(3) == 0 ? WILD[random.nextInt(WILD.length)] : random.nextInt(14);
                }
                wild(bench, call, with);
            }
        }
        Due.end();
    }

    private static void furnish(CubicBench bench, int run) {
        if (run % 5 == 0) {
            return;
        }
        bench.cubic(0, 1);
        bench.cubic(-11, 15);
        bench.rest(0, 7);
        bench.rest(0, 31);
        bench.rest(1, run % 2 == 0 ? 1999 : 1000003);
        bench.point(0, 2, 3);
        bench.point(0, -1, 0);
        bench.point(0, 0, 1);
        bench.point(1, 2, 1);
        bench.point(1, 3, 3);
        bench.point(2, 0, 1);
        bench.far(2);
        bench.list(3, 7);
        bench.list(3, 4);
        bench.group(2, 3);
    }

    private static void wild(CubicBench bench, Method call, Object[] with) throws IllegalAccessException {
        try {
            call.invoke(bench, with);
        } catch (InvocationTargetException e) {
            Class<?> kind = e.getCause().getClass();
            boolean named = Arrays.asList(call.getExceptionTypes()).contains(kind);
            boolean own = e.getCause().getStackTrace()[0].getClassName().startsWith("CubicBench");
            Due.same("true", String.valueOf(named && own), call.getName() + Arrays.toString(with) + " threw " + e.getCause());
        }
    }
}
