import java.io.IOException;
import java.lang.reflect.Method;
import java.lang.reflect.Modifier;
import java.nio.file.Files;
import java.nio.file.Path;
import java.util.List;
import java.util.regex.Matcher;
import java.util.regex.Pattern;
import java.util.stream.Stream;

/** README.md: each call of the class stands there, each test is named, and the example answers what is said beside it. */
public final class ReadmeTest extends Ask {
    private static final Pattern CALL = Pattern.compile("heap\\.(\\w+)\\((.*)\\);\\s*// (-?\\d+): .*");

    private static void calls(String page) {
        for (Method m : SmokyHeap.class.getDeclaredMethods()) {
            if (!Modifier.isPublic(m.getModifiers())) continue;
            StringBuilder takes = new StringBuilder();
            for (Class<?> type : m.getParameterTypes()) {
                takes.append(takes.length() == 0 ? "" : ", ").append(type.getName()).append(" \\w+");
            }
            Pattern row = Pattern.compile("\\| `int " + m.getName() + "\\(" + takes + "\\)` \\|.*\\|.*\\|.*\\|");
            is("README: the row of " + m.getName(), page.lines().filter(l -> row.matcher(l).matches()).count(), 1);
        }
    }

    private static void tests(String page) throws IOException {
        try (Stream<Path> files = Files.list(Path.of("src/test/java"))) {
            for (Path p : files.toList()) is("README: names " + p, page.contains("`" + p + "`") ? 1 : 0, 1);
        }
        is("README: how to run them", page.contains("`.ci/run`") ? 1 : 0, 1);
    }

    private static long number(String sign) {
        return Long.decode(sign.endsWith("L") ? sign.substring(0, sign.length() - 1) : sign);
    }

    private static int answer(SmokyHeap heap, String name, String takes) throws ReflectiveOperationException {
        String[] signs = takes.isEmpty() ? new String[0] : takes.split(", ");
        for (Method m : SmokyHeap.class.getDeclaredMethods()) {
            if (!Modifier.isPublic(m.getModifiers()) || !m.getName().equals(name)) continue;
            Class<?>[] types = m.getParameterTypes();
            Object[] numbers = new Object[signs.length];
            for (int k = 0; k < signs.length && k < types.length; k++) {
                if (types[k] == long.class) numbers[k] = number(signs[k]);
                else numbers[k] = (int) number(signs[k]);
            }
            return (Integer) m.invoke(heap, numbers);
        }
        throw new NoSuchMethodException(name);
    }

    private static void example(String page) throws ReflectiveOperationException {
        List<String> lines = page.lines().dropWhile(l -> !l.equals("```java")).skip(1).takeWhile(l -> !l.equals("```")).toList();
        is("README: an object is made", lines.indexOf("SmokyHeap heap = new SmokyHeap();"), 0);
        SmokyHeap heap = new SmokyHeap();
        for (String line : lines.subList(1, lines.size())) {
            Matcher m = CALL.matcher(line);
            boolean is = m.matches();
            is("README: a call and its answer: " + line, is ? 1 : 0, 1);
            if (is) is("README: " + line, answer(heap, m.group(1), m.group(2)), number(m.group(3)));
        }
    }

    public static void main(String[] args) throws IOException, ReflectiveOperationException {
        String page = Files.readString(Path.of("README.md"));
        calls(page);
        tests(page);
        example(page);
        end();
    }
}
