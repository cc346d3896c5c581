import java.io.IOException;
import java.lang.reflect.Method;
import java.lang.reflect.Modifier;
import java.net.URL;
import java.net.URLClassLoader;
import java.nio.file.Files;
import java.nio.file.Path;
import java.util.ArrayList;
import java.util.Comparator;
import java.util.List;
import java.util.Map;
import java.util.TreeMap;
import java.util.function.BiConsumer;
import java.util.regex.Matcher;
import java.util.regex.Pattern;
import java.util.stream.Stream;
import javax.tools.ToolProvider;

/** Whether each example of README.md answers as README.md says, and whether each call and finding stands there. */
public final class ReadmeTest {
    /** A call that stands for itself, with its answer behind it. */
    private static final Pattern ANSWERED = Pattern.compile("(?:(?:int|long) (\\w+) = )?(x\\.\\w+\\(.*\\)); +// (-?\\d+)(?::.*)?");
    /** What may stand in an example without an answer. */
    private static final Pattern SILENT = Pattern.compile("BumpStreets x = new BumpStreets\\(\\);|String .*|for .* \\{|\\}| {4}.*;");
    private static final Pattern TEXT_ROW = Pattern.compile("\\| `([^`]*)` \\| (-?\\d+) \\|.*");
    private static final Pattern CALL_ROW = Pattern.compile("\\| `(\\w+)\\(([^)]*)\\)` \\| .+ \\|");
    private static final Pattern FINDING_ROW = Pattern.compile("\\| (-\\d+) \\| ([A-Z]+) \\| (\\d) \\| .+ \\|");

    public static void main(String[] args) throws IOException, ReflectiveOperationException {
        List<String> lines = Files.readAllLines(Path.of("README.md"));
        examples(lines);
        texts(lines);
        calls(lines);
        findings(lines);
        Due.end();
    }

    private static void examples(List<String> lines) throws IOException, ReflectiveOperationException {
        StringBuilder source = new StringBuilder("public final class Examples {\n");
        source.append("public static void run(java.util.function.BiConsumer<String, long[]> due) {\n");
        int answers = 0;
        boolean isJava = false;
        for (int i = 0; i < lines.size(); i++) {
            String line = lines.get(i);
            if (line.startsWith("```")) {
                source.append(isJava ? "}\n" : line.equals("```java") ? "{\n" : "");
                isJava = line.equals("```java");
            } else if (isJava) {
                Matcher m = ANSWERED.matcher(line);
                boolean isAnswered = m.matches();
                answers += isAnswered ? 1 : 0;
                Due.is("README.md " + (i + 1) + " has its answer: " + line, isAnswered || SILENT.matcher(line).matches() ? 1 : 0, 1);
                source.append(isAnswered ? asked(m, i + 1) : line).append('\n');
            }
        }
        Due.is("there are examples", answers > 0 ? 1 : 0, 1);
        run(source.append("}\n}\n").toString());
    }

    private static String asked(Matcher m, int number) {
        String name = m.group(1) == null ? "answer" + number : m.group(1);
        return "long " + name + "_ = " + m.group(2) + "; "
            + (m.group(1) == null ? "" : "int " + name + " = (int) " + name + "_; ")
            + "due.accept(\"README.md " + number + ": " + m.group(2) + "\", new long[] {" + name + "_, " + m.group(3) + "L});";
    }

    private static void run(String source) throws IOException, ReflectiveOperationException {
        Path place = Files.createTempDirectory("examples");
        try {
            Path file = Files.writeString(place.resolve("Examples.java"), source);
            int failed = ToolProvider.getSystemJavaCompiler().run(null, null, null, "-cp", System.getProperty("java.class.path"),
                "-d", place.toString(), file.toString());
            Due.is("the examples are Java", failed, 0);
            if (failed == 0) {
                try (URLClassLoader loader = new URLClassLoader(new URL[] {place.toUri().toURL()}, ReadmeTest.class.getClassLoader())) {
                    BiConsumer<String, long[]> due = (call, both) -> Due.is(call, both[0], both[1]);
                    loader.loadClass("Examples").getMethod("run", BiConsumer.class).invoke(null, due);
                }
            }
        } finally {
            clear(place);
        }
    }

    private static void clear(Path place) throws IOException {
        List<Path> all = new ArrayList<>();
        try (Stream<Path> found = Files.walk(place)) {
            found.sorted(Comparator.reverseOrder()).forEach(all::add);
        }
        for (Path one : all) {
            Files.delete(one);
        }
    }

    private static void texts(List<String> lines) {
        int rows = 0;
        for (String line : lines) {
            Matcher m = TEXT_ROW.matcher(line);
            if (m.matches()) {
                rows++;
                Due.is("README.md: " + m.group(1), Scenes.tell(new BumpStreets(), m.group(1)), Integer.parseInt(m.group(2)));
            }
        }
        Due.is("there are texts", rows > 0 ? 1 : 0, 1);
    }

    private static void calls(List<String> lines) {
        Map<String, Integer> face = new TreeMap<>();
        for (Method m : BumpStreets.class.getDeclaredMethods()) {
            if (Modifier.isPublic(m.getModifiers())) {
                face.put(m.getName(), m.getParameterCount());
            }
        }
        for (String line : lines) {
            Matcher m = CALL_ROW.matcher(line);
            if (m.matches()) {
                int numbers = m.group(2).isEmpty() ? 0 : m.group(2).split(", ").length;
                Due.is("README.md: numbers of " + m.group(1), numbers, face.getOrDefault(m.group(1), -1));
                face.remove(m.group(1));
            }
        }
        Due.is("README.md leaves out " + face.keySet(), face.size(), 0);
    }

    private static void findings(List<String> lines) {
        Map<String, Long> all = new TreeMap<>(Map.of("BEYOND", Due.BEYOND, "FULL", Due.FULL, "KIND", Due.KIND,
            "NONE", Due.NONE, "STATE", Due.STATE, "MISSING", Due.MISSING, "SIZE", Due.SIZE));
        for (String line : lines) {
            Matcher m = FINDING_ROW.matcher(line);
            if (m.matches()) {
                Due.is("README.md: " + m.group(2), Long.parseLong(m.group(1)), all.getOrDefault(m.group(2), 0L));
                Due.is("README.md: status of " + m.group(2), Long.parseLong(m.group(3)), Due.BEYOND - all.getOrDefault(m.group(2), 0L));
                all.remove(m.group(2));
            }
        }
        Due.is("README.md leaves out " + all.keySet(), all.size(), 0);
    }
}
