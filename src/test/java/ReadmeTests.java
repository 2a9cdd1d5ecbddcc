import java.io.IOException;
import java.lang.reflect.Method;
import java.lang.reflect.Modifier;
import java.nio.charset.StandardCharsets;
import java.nio.file.Files;
import java.nio.file.Path;
import java.util.ArrayList;
import java.util.List;
import java.util.regex.Matcher;
import java.util.regex.Pattern;
import java.util.stream.Stream;

/** What README.md says: its run of calls answers as it says, and it names all calls and tests. */
public final class ReadmeTests {
    private static final Pattern ROW = Pattern.compile("block\\.(\\w+)\\(([^)]*)\\);\\s+// (-?\\d+)(:.*)?");
    private static final Checks c = new Checks();

    public static void main(String[] args) throws IOException {
        List<String> lines = Files.readAllLines(Path.of("README.md"), StandardCharsets.UTF_8);
        run(lines);
        names(String.join("\n", lines));
        c.finish();
    }

    /** The blocks of Java together are one object's run. */
    private static void run(List<String> lines) {
        c.begin("README: each call answers what stands behind it");
        PictureBlock x = new PictureBlock();
        int calls = 0;
        for (String line : code(lines)) {
            if (line.equals("PictureBlock block = new PictureBlock();")) {
                x = new PictureBlock();
                continue;
            }
            Matcher row = ROW.matcher(line);
            boolean isRow = row.matches();
            c.holds("a call with its answer: " + line, isRow);
            if (isRow) {
                calls++;
                c.due(line, Calls.answer(x, row.group(1), numbers(row.group(2))), Long.parseLong(row.group(3)));
            }
        }
        c.holds("a run of more than 20 calls, and of at most 512: " + calls, calls > 20 && calls <= 512);
    }

    private static List<String> code(List<String> lines) {
        List<String> code = new ArrayList<>();
        boolean inside = false;
        for (String line : lines) {
            if (line.startsWith("```")) {
                inside = line.equals("```java");
            } else if (inside) {
                code.add(line);
            }
        }
        return code;
    }

    private static long[] numbers(String with) {
        String[] texts = with.isEmpty() ? new String[0] : with.split(", ");
        long[] numbers = new long[texts.length];
        for (int i = 0; i < texts.length; i++) {
            numbers[i] = Long.decode(texts[i].replace("L", ""));
        }
        return numbers;
    }

    private static void names(String page) throws IOException {
        c.begin("README: each call and each file of tests is named");
        for (Method method : PictureBlock.class.getDeclaredMethods()) {
            boolean isPublic = Modifier.isPublic(method.getModifiers());
            c.holds(method.getName(), !isPublic || page.contains("`" + method.getName() + "`"));
        }
        try (Stream<Path> files = Files.list(Path.of("src/test/java"))) {
            for (String name : files.map(file -> file.getFileName().toString()).toList()) {
                c.holds(name, !name.endsWith("Tests.java") || page.contains("`" + name.replace(".java", "") + "`"));
            }
        }
        c.holds("how to run the tests", page.contains(".ci/run"));
    }
}
