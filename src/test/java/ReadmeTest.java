import java.nio.file.Files;
import java.nio.file.Path;
import java.util.Arrays;
import java.util.List;
import java.util.regex.Matcher;
import java.util.regex.Pattern;

/** README.md: its calls answer what it says, its findings and its tests are those that there are. */
public final class ReadmeTest {
    private static final Pattern CALL = Pattern.compile("x\\.(\\w+)\\(([^)]*)\\); *// (-?\\d+)(:.*)?");
    private static final Pattern FINDING = Pattern.compile("\\| (-\\d+) \\| ([A-Z]+) \\|.*");

    private static OneShort x = null;
    private static int calls = 0;
    private static int findings = 0;

    public static void main(String[] args) throws Exception {
        String page = Files.readString(Path.of("README.md"));
        boolean inExample = false;
        for (String line : page.split("\n")) {
            if (line.startsWith("```")) {
                inExample = line.equals("```java");
            } else if (inExample) {
                example(line);
            } else {
                finding(line);
            }
        }
        Check.due("calls in README.md", calls > 0 ? 1 : 0, 1);
        Check.due("findings in README.md", findings, 7);
        tests(page);
        Check.end();
    }

    private static void example(String line) throws Exception {
        Matcher call = CALL.matcher(line);
        if (line.equals("OneShort x = new OneShort();")) {
            x = new OneShort();
        } else if (call.matches()) {
            Check.due(line, answer(call.group(1), call.group(2)), Long.parseLong(call.group(3)));
            calls++;
        } else {
            Check.due("neither a call nor a comment: " + line, line.isEmpty() || line.startsWith("//") ? 1 : 0, 1);
        }
    }

    private static long answer(String name, String numbers) throws Exception {
        String[] texts = numbers.isEmpty() ? new String[0] : numbers.split(", *");
        Class<?>[] types = new Class<?>[texts.length];
        Arrays.fill(types, int.class);
        Object[] values = Arrays.stream(texts).map(Integer::decode).toArray();
        return ((Number) OneShort.class.getMethod(name, types).invoke(x, values)).longValue();
    }

    private static void finding(String line) throws Exception {
        Matcher row = FINDING.matcher(line);
        if (row.matches()) {
            Check.due(line, Long.parseLong(row.group(1)), Check.class.getDeclaredField(row.group(2)).getInt(null));
            findings++;
        }
    }

    private static void tests(String page) throws Exception {
        List<Path> files;
        try (var inside = Files.list(Path.of("src/test/java"))) {
            files = inside.sorted().toList();
        }
        for (Path file : files) {
            String name = file.getFileName().toString().replace(".java", "");
            String told = name.endsWith("Test") ? "| " + name + " |" : "`" + name + "`";
            Check.due(name + " is told in README.md", page.contains(told) ? 1 : 0, 1);
        }
    }
}
