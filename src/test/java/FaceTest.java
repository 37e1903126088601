import java.io.IOException;
import java.lang.reflect.Constructor;
import java.lang.reflect.Field;
import java.lang.reflect.Method;
import java.lang.reflect.Modifier;
import java.nio.charset.StandardCharsets;
import java.nio.file.Files;
import java.nio.file.Path;
import java.util.ArrayList;
import java.util.List;
import java.util.TreeSet;
import java.util.regex.Matcher;
import java.util.regex.Pattern;

/** The public face, and the rules of the language that a text or the machine can tell. */
public final class FaceTest {
    private static final String[] FACE = {
        "int cubic(int, int) IllegalArgumentException, IllegalStateException",
        "int rest(int, int) IndexOutOfBoundsException, IllegalArgumentException, IllegalStateException",
        "int turned(int) IndexOutOfBoundsException, IllegalArgumentException, IllegalStateException",
        "long about(int, int) IndexOutOfBoundsException, IllegalArgumentException",
        "int far(int) IndexOutOfBoundsException, IllegalStateException",
        "int point(int, int, int) IndexOutOfBoundsException, IllegalArgumentException, IllegalStateException",
        "int add(int, int) IndexOutOfBoundsException, IllegalStateException",
        "int mirror(int) IndexOutOfBoundsException, IllegalStateException",
        "int times(int, int) IndexOutOfBoundsException, IllegalArgumentException, IllegalStateException",
        "int order(int) IndexOutOfBoundsException",
        "int told(int, int) IndexOutOfBoundsException, IllegalArgumentException",
        "int print(int, int) IndexOutOfBoundsException, IllegalArgumentException",
        "int back(int) IndexOutOfBoundsException, IllegalArgumentException",
        "int backAt(int, int) IndexOutOfBoundsException, IllegalArgumentException, IllegalStateException",
        "int search(int, int) IndexOutOfBoundsException, IllegalArgumentException",
        "long found(int, int) IndexOutOfBoundsException, IllegalArgumentException",
        "int count(int) IndexOutOfBoundsException, IllegalArgumentException",
        "long over(int, int) IndexOutOfBoundsException, IllegalArgumentException",
        "int list(int, int) IndexOutOfBoundsException, IllegalArgumentException, IllegalStateException",
        "int group(int, int) IndexOutOfBoundsException, IllegalArgumentException, IllegalStateException",
        "int pair(int, int, int) IndexOutOfBoundsException, IllegalArgumentException",
        "int polynomial(int, int) IndexOutOfBoundsException, IllegalArgumentException",
        "int coefficient(int)",
        "int root(int)",
        "int led(int) IndexOutOfBoundsException, IllegalStateException",
        "int through(int, int) IndexOutOfBoundsException, IllegalStateException",
        "int counted(int)",
        "int octet(int)",
    };
    private static final String[] FORBIDDEN = {"->", "::", "\\bcatch\\b", "\\btry\\b", "\\bfinally\\b", "\\bsynchronized\\b",
        "\\bassert\\b", "\\bdouble\\b", "\\bfloat\\b", "Exact\\(", "\\bwhile \\(true\\)", "for \\(;;", "\\bpackage\\b",
        "\" \\+", "\\+ \"", "\\.hashCode\\(", "\\.toString\\(", "\\bSystem\\.(?!arraycopy)", "\\bRandom\\b", "\\bThread\\b",
        "\\bprotected\\b", "@SuppressWarnings"};

    public static void main(String[] args) throws IOException {
        methods();
        members();
        nested();
        text();
        Due.end();
    }

    private static String names(Class<?>[] kinds) {
        List<String> names = new ArrayList<>();
        for (Class<?> kind : kinds) {
            names.add(kind.getSimpleName());
        }
        return String.join(", ", names);
    }

    private static void methods() {
        TreeSet<String> due = new TreeSet<>(List.of(FACE));
        TreeSet<String> got = new TreeSet<>();
        TreeSet<String> publicNames = new TreeSet<>();
        for (Method method : CubicBench.class.getDeclaredMethods()) {
            if (Modifier.isPublic(method.getModifiers())) {
                publicNames.add(method.getName());
                got.add((method.getReturnType() + " " + method.getName() + "(" + names(method.getParameterTypes()) + ") "
                        + names(method.getExceptionTypes())).trim());
            }
        }
        Due.same(String.join("; ", due), String.join("; ", got), "the face");
        for (Method method : CubicBench.class.getDeclaredMethods()) {
            boolean isPrivate = Modifier.isPrivate(method.getModifiers());
            boolean named = publicNames.contains(method.getName());
            Due.same("true", String.valueOf(Modifier.isPublic(method.getModifiers()) || isPrivate && !named),
                    "private with a name of its own: " + method.getName());
        }
    }

    private static void members() {
        Due.same("true", String.valueOf(Modifier.isFinal(CubicBench.class.getModifiers())), "the class is final");
        Constructor<?>[] constructors = CubicBench.class.getDeclaredConstructors();
        Due.same("1", String.valueOf(constructors.length), "constructors");
        Due.same("true", String.valueOf(Modifier.isPublic(constructors[0].getModifiers())), "the constructor is public");
        for (Field field : CubicBench.class.getDeclaredFields()) {
            String due = field.getName().equals("NONE") ? "public static final int" : "private";
            String got = Modifier.toString(field.getModifiers()) + " " + field.getType();
            Due.same("true", String.valueOf(got.startsWith(due)), "field " + field.getName());
        }
    }

    private static void nested() {
        Class<?>[] classes = CubicBench.class.getDeclaredClasses();
        Due.same("true", String.valueOf(classes.length <= 12), "at most twelve classes inside");
        for (Class<?> inside : classes) {
            int flags = inside.getModifiers();
            Due.same("true", String.valueOf(Modifier.isStatic(flags) && !Modifier.isPublic(flags)), inside.getName());
            int fields = 0;
            for (Field field : inside.getDeclaredFields()) {
                boolean isStatic = Modifier.isStatic(field.getModifiers());
                fields += isStatic ? 0 : 1;
                Due.same("true", String.valueOf(!isStatic || Modifier.isFinal(field.getModifiers())), "final: " + field);
            }
            Due.same("true", String.valueOf(fields <= 20), "fields of " + inside.getName());
            for (Method method : inside.getDeclaredMethods()) {
                Due.same("true", String.valueOf(method.getParameterCount() <= 7), "parameters of " + method);
                for (String line : FACE) {
                    Due.same("false", String.valueOf(line.contains(" " + method.getName() + "(")), "name of " + method);
                }
            }
        }
    }

    private static void text() throws IOException {
        String source = Files.readString(Path.of("src/main/java/CubicBench.java"), StandardCharsets.US_ASCII);
        String code = source.replaceAll("(?s)/\\*.*?\\*/", "").replaceAll("//.*", "");
        for (String forbidden : FORBIDDEN) {
            Due.same("false", String.valueOf(Pattern.compile(forbidden).matcher(code).find()), forbidden + " in the class");
        }
        Matcher imports = Pattern.compile("import (.*);").matcher(code);
        while (imports.find()) {
            Due.same("java.util.Arrays", imports.group(1), "import");
        }
        Matcher thrown = Pattern.compile("throw [^;]*;").matcher(code);
        while (thrown.find()) {
            String form = "throw new (IllegalState|IllegalArgument|IndexOutOfBounds)Exception\\(\"[^\"]*\"\\);";
            Due.same("true", String.valueOf(thrown.group().matches(form)), thrown.group());
        }
        lengths(code);
    }

    private static void lengths(String code) {
        int begun = 0;
        int at = 0;
        for (String line : code.split("\n")) {
            at++;
            if (line.matches("( {4}| {8})(\\S.*)?\\) (throws .*)?\\{") || line.matches(" {12}throws .*\\{")) {
                begun = at;
            }
            if (line.matches("( {4}| {8})}") && begun > 0) {
                Due.same("true", String.valueOf(at - begun <= 60), "length of the method that ends in line " + at);
                begun = 0;
            }
        }
    }
}
