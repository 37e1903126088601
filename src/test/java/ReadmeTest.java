import java.io.IOException;
import java.lang.reflect.InvocationTargetException;
import java.lang.reflect.Method;
import java.lang.reflect.Modifier;
import java.nio.charset.StandardCharsets;
import java.nio.file.Files;
import java.nio.file.Path;
import java.util.HashMap;
import java.util.Map;
import java.util.TreeSet;
import java.util.regex.Matcher;
import java.util.regex.Pattern;

/** The examples of README.md, read out of it and run line by line: each call answers what stands behind it. */
public final class ReadmeTest {
    private static final String FRESH = "CubicBench bench = new CubicBench();";
    private static final Pattern BLOCK = Pattern.compile("(?s)```java\n(.*?)```");
    private static final Pattern LINE = Pattern.compile("((int|long) (\\w+) = )?bench\\.(\\w+)\\(([^()]*)\\); +"
            + "// (-?\\d+|throws \\w+)(: (.*))?");
    private static final Pattern READS = Pattern.compile("the page reads (\\S+)");

    private final Map<String, Integer> names = new HashMap<>();
    private final TreeSet<String> shown = new TreeSet<>();
    private CubicBench bench;

    public static void main(String[] args) throws IOException, IllegalAccessException {
        ReadmeTest test = new ReadmeTest();
        String readme = Files.readString(Path.of("README.md"), StandardCharsets.US_ASCII);
        for (Matcher block = BLOCK.matcher(readme); block.find();) {
            test.example(block.group(1));
        }
        TreeSet<String> face = new TreeSet<>();
        for (Method method : CubicBench.class.getDeclaredMethods()) {
            if (Modifier.isPublic(method.getModifiers())) {
                face.add(method.getName());
            }
        }
        Due.same(face.toString(), test.shown.toString(), "the calls that README.md shows");
        Due.end();
    }

    /** Every example begins with an object of its own. */
    private void example(String text) throws IllegalAccessException {
        bench = null;
        names.clear();
        for (String line : text.split("\n")) {
            Matcher call = LINE.matcher(line);
            if (line.equals(FRESH)) {
                Due.same("true", String.valueOf(bench == null), "one object for an example: " + line);
                bench = new CubicBench();
            } else if (call.matches() && bench != null) {
                run(line, call);
            } else {
                Due.same("", line, "README.md: a line that is no call with its answer");
            }
        }
    }

    private void run(String line, Matcher call) throws IllegalAccessException {
        String[] written = call.group(5).isEmpty() ? new String[0] : call.group(5).split(", ");
        Method method = methodOf(call.group(4), written.length);
        if (method == null) {
            Due.same("a method of the face", call.group(4), line);
            return;
        }
        shown.add(method.getName());
        Object[] with = new Object[written.length];
        for (int i = 0; i < with.length; i++) {
            with[i] = valueOf(written[i], line);
        }
        String got = answer(method, with);
        Due.same(call.group(6), got, line);
        if (call.group(1) != null) {
            Due.same(method.getReturnType().getName(), call.group(2), "kind of " + line);
            Due.same("false", String.valueOf(names.containsKey(call.group(3))), "named twice: " + line);
            names.put(call.group(3), got.startsWith("throws") ? 0 : (int) Long.parseLong(got));
        }
        Matcher reads = READS.matcher(call.group(8) == null ? "" : call.group(8));
        if (reads.find()) {
            Due.text(reads.group(1), line, bench);
        }
    }

    private static Method methodOf(String name, int parameters) {
        for (Method method : CubicBench.class.getDeclaredMethods()) {
            boolean isPublic = Modifier.isPublic(method.getModifiers());
            if (isPublic && method.getName().equals(name) && method.getParameterCount() == parameters) {
                return method;
            }
        }
        return null;
    }

    private int valueOf(String written, String line) {
        if (written.matches("-?[0-9_]+")) {
            return Integer.parseInt(written.replace("_", ""));
        }
        Due.same("true", String.valueOf(names.containsKey(written)), written + " is known ahead of: " + line);
        return names.getOrDefault(written, 0);
    }

    private String answer(Method method, Object[] with) throws IllegalAccessException {
        try {
            return String.valueOf(method.invoke(bench, with));
        } catch (InvocationTargetException e) {
            return "throws " + e.getCause().getClass().getSimpleName();
        }
    }
}
