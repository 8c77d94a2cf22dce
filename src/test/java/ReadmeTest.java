import java.io.IOException;
import java.lang.reflect.Method;
import java.lang.reflect.Modifier;
import java.nio.file.Files;
import java.nio.file.Path;
import java.util.Arrays;
import java.util.List;
import java.util.regex.Matcher;
import java.util.regex.Pattern;

/** README.md: its examples answer as they say, and every call of the face is named. */
public final class ReadmeTest {
    private static final Pattern MADE = Pattern.compile("PackedPages pages = new PackedPages\\(\\);");
    private static final Pattern CALL = Pattern.compile("pages\\.(\\w+)\\(([^)]*)\\);\\s*//\\s*(?:(-?\\d+):)?.*");
    private static int wrong = 0;
    private static int told = 0;

    private static void check(boolean right, String what) {
        if (!right) {
            wrong++;
            System.out.println(what);
        }
    }

    private static int call(PackedPages pages, String name, String arguments) throws ReflectiveOperationException {
        Object[] values = arguments.isBlank() ? new Object[0]
                : Arrays.stream(arguments.split(",")).map(String::trim).map(Integer::decode).toArray();
        Class<?>[] types = new Class<?>[values.length];
        Arrays.fill(types, int.class);
        return (Integer) PackedPages.class.getMethod(name, types).invoke(pages, values);
    }

    private static void runExamples(List<String> lines) throws ReflectiveOperationException {
        PackedPages pages = null;
        boolean inExample = false;
        for (String line : lines) {
            if (line.startsWith("```")) {
                inExample = line.equals("```java");
                continue;
            }
            if (!inExample) continue;
            if (MADE.matcher(line).matches()) {
                pages = new PackedPages();
                continue;
            }
            Matcher m = CALL.matcher(line);
            check(pages != null && m.matches(), "not a call: " + line);
            if (pages == null || !m.matches()) continue;
            int answer = call(pages, m.group(1), m.group(2));
            if (m.group(3) == null) continue;
            told++;
            check(answer == Integer.parseInt(m.group(3)), line + " answered " + answer);
        }
    }

    public static void main(String[] args) throws IOException, ReflectiveOperationException {
        List<String> lines = Files.readAllLines(Path.of("README.md"));
        runExamples(lines);
        check(told >= 10, "only " + told + " answers are told");
        String table = String.join("\n", lines.stream().filter(line -> line.startsWith("| `")).toList());
        for (Method m : PackedPages.class.getDeclaredMethods())
            if (Modifier.isPublic(m.getModifiers())) check(table.contains("`" + m.getName() + "`"), "not named: " + m.getName());
        System.out.println(wrong == 0 ? "README.md: " + told + " answers are as told" : wrong + " are not as told");
        if (wrong != 0) System.exit(1);
    }
}
