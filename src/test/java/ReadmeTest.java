import java.io.IOException;
import java.lang.reflect.Method;
import java.lang.reflect.Modifier;
import java.nio.file.Files;
import java.nio.file.Path;
import java.util.Arrays;
import java.util.Map;
import java.util.regex.Matcher;
import java.util.regex.Pattern;

/** README.md keeps to the class: its example answers as it says, and its tables have every call. */
public final class ReadmeTest {
    private static final Pattern EXAMPLE = Pattern.compile("(?m)^x\\.(\\w+)\\(([^)]*)\\); +// (-?\\d+|[A-Z]+)");
    private static final Pattern ROW = Pattern.compile("(?m)^\\| `(\\w+)\\(([^)]*)\\)` \\|");
    private static final Pattern CONSTANT = Pattern.compile("(?m)^\\| `([A-Z]+)` (-\\d+) \\|");
    private static final Map<String, Integer> NAMED =
        Map.of("NONE", Due.NONE, "BAD", Due.BAD, "STATE", Due.STATE, "FULL", Due.FULL);

    public static void main(String[] args) throws IOException {
        String page = Files.readString(Path.of("README.md"));
        example(page);
        everyCall(page);
        everyConstant(page);
        Due.end();
    }

    private static void example(String page) {
        SweetLine x = new SweetLine();
        int lines = 0;
        Matcher m = EXAMPLE.matcher(page);
        while (m.find()) {
            long[] given = Arrays.stream(parts(m.group(2))).mapToLong(ReadmeTest::number).toArray();
            Integer named = NAMED.get(m.group(3));
            int want = named != null ? named : Integer.parseInt(m.group(3));
            Due.due("README: x." + m.group(1) + "(" + m.group(2) + ")", Run.make(x, m.group(1), given), want);
            lines++;
        }
        long calls = page.lines().filter(line -> line.startsWith("x.")).count();
        Due.due("README: lines of the example that tell their answer", lines, calls);
        Due.due("README: there is an example", lines > 0 ? 1 : 0, 1);
    }

    private static void everyCall(String page) {
        for (Method method : SweetLine.class.getDeclaredMethods()) {
            if (!Modifier.isPublic(method.getModifiers())) {
                continue;
            }
            int rows = 0;
            Matcher m = ROW.matcher(page);
            while (m.find()) {
                boolean same = m.group(1).equals(method.getName());
                rows += same && parts(m.group(2)).length == method.getParameterCount() ? 1 : 0;
            }
            Due.due("README: rows for " + method.getName(), rows, 1);
        }
    }

    private static void everyConstant(String page) {
        int rows = 0;
        Matcher m = CONSTANT.matcher(page);
        while (m.find()) {
            Due.due("README: " + m.group(1), Integer.parseInt(m.group(2)), NAMED.getOrDefault(m.group(1), 0));
            rows++;
        }
        Due.due("README: rows for constants", rows, NAMED.size());
    }

    private static String[] parts(String row) {
        return row.isBlank() ? new String[0] : row.split(", ");
    }

    private static long number(String part) {
        return Long.decode(part.endsWith("L") ? part.substring(0, part.length() - 1) : part);
    }
}
