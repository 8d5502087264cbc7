import java.io.IOException;
import java.lang.reflect.Method;
import java.lang.reflect.Modifier;
import java.nio.file.Files;
import java.nio.file.Path;
import java.util.Arrays;
import java.util.Map;
import java.util.Set;
import java.util.TreeMap;
import java.util.TreeSet;
import java.util.regex.Matcher;
import java.util.regex.Pattern;

/** The example in README.md: each row is called, in order, and must answer what stands behind it. */
public final class ReadmeTest extends Hand {
    private static final Pattern ROW = Pattern.compile("x\\.(\\w+)\\(([^)]*)\\);\\s*// (-?\\w+)(:.*)?");
    private static final Map<String, Method> METHODS = new TreeMap<>();

    private static int answer(String told) throws ReflectiveOperationException {
        return told.matches("-?\\d+") ? Integer.parseInt(told) : FiveStars.class.getField(told).getInt(null);
    }

    private static Object[] args(String told) {
        return told.isEmpty() ? new Object[0] : Arrays.stream(told.split(", ")).map(Integer::decode).toArray();
    }

    private static void example(String page) throws ReflectiveOperationException {
        int from = page.indexOf("```java");
        int to = page.indexOf("```", from + 3);
        FiveStars x = new FiveStars();
        Set<String> answers = new TreeSet<>();
        int rows = 0;
        for (String row : page.substring(from, to).split("\n")) {
            Matcher m = ROW.matcher(row);
            if (m.matches()) {
                rows++;
                answers.add(m.group(3));
                due(row, (Integer) METHODS.get(m.group(1)).invoke(x, args(m.group(2))), answer(m.group(3)));
            } else if (row.startsWith("x.")) {
                fail("a row that tells no answer: " + row);
            }
        }
        due("rows", rows > 40 ? 1 : 0, 1);
        due("some are refused", answers.containsAll(Set.of("BAD", "NONE", "KIND", "INDEX", "NOTHING")) ? 1 : 0, 1);
    }

    public static void main(String[] args) throws IOException, ReflectiveOperationException {
        for (Method m : FiveStars.class.getDeclaredMethods()) {
            if (Modifier.isPublic(m.getModifiers())) {
                METHODS.put(m.getName(), m);
            }
        }
        String page = Files.readString(Path.of("README.md"));
        example(page);
        try (var tests = Files.list(Path.of("src/test/java"))) {
            for (Path p : tests.toList()) {
                String name = p.getFileName().toString().replace(".java", "");
                if (name.endsWith("Test") && !page.contains("`" + name + "`")) {
                    fail("README.md does not tell of " + name);
                }
            }
        }
        end();
    }
}
