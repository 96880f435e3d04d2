import java.io.IOException;
import java.lang.reflect.Method;
import java.lang.reflect.Modifier;
import java.nio.file.Files;
import java.nio.file.Path;
import java.util.List;
import java.util.regex.Matcher;
import java.util.regex.Pattern;
import java.util.stream.Stream;

/** What README.md shows is what the class answers, and it names every call and every test. */
public final class ReadmeTest {
    private static final Pattern CALL = Pattern.compile("x\\.(\\w+)\\(([^)]*)\\); *// (-?\\d+): .*");
    private static final String MADE = "BaleTallies x = new BaleTallies();";
    private static final Checks c = new Checks();

    public static void main(String[] args) throws Exception {
        String page = Files.readString(Path.of("README.md"));
        example(page.substring(page.indexOf("```java\n") + 8));
        calls(page);
        tests(page);
        c.finish();
    }

    private static void example(String shown) throws Exception {
        c.part("the example");
        List<String> rows = shown.substring(0, shown.indexOf("```")).lines().toList();
        c.due("it begins with a new object", rows.get(0).equals(MADE) ? 1 : 0, 1);
        BaleTallies x = new BaleTallies();
        for (String row : rows.subList(1, rows.size())) {
            Matcher m = CALL.matcher(row);
            c.due("a call with its answer: " + row, m.matches() ? 1 : 0, 1);
            if (m.matches()) {
                c.due(row, answer(x, m.group(1), m.group(2)), Integer.parseInt(m.group(3)));
            }
        }
    }

    private static int answer(BaleTallies x, String name, String told) throws Exception {
        Object[] values = Pattern.compile(",").splitAsStream(told).filter(s -> !s.isBlank())
            .map(s -> (Object) Long.decode(s.trim()).intValue()).toArray();
        Class<?>[] types = new Class<?>[values.length];
        java.util.Arrays.fill(types, int.class);
        return (Integer) BaleTallies.class.getMethod(name, types).invoke(x, values);
    }

    private static void calls(String page) {
        c.part("the calls");
        for (Method m : BaleTallies.class.getDeclaredMethods()) {
            if (Modifier.isPublic(m.getModifiers())) {
                c.due(m.getName() + " is named", page.contains("`" + m.getName() + "`") ? 1 : 0, 1);
            }
        }
    }

    private static void tests(String page) throws IOException {
        c.part("the tests");
        try (Stream<Path> files = Files.list(Path.of("src/test/java"))) {
            files.map(f -> f.getFileName().toString()).filter(f -> f.endsWith("Test.java")).forEach(f -> {
                String name = f.substring(0, f.length() - 5);
                c.due(name + " has a row", page.contains("\n| " + name + " |") ? 1 : 0, 1);
            });
        }
    }
}
