import java.io.File;
import java.io.IOException;
import java.lang.reflect.Method;
import java.lang.reflect.Modifier;
import java.net.URL;
import java.net.URLClassLoader;
import java.nio.file.Files;
import java.nio.file.Path;
import java.util.ArrayList;
import java.util.Comparator;
import java.util.HashMap;
import java.util.List;
import java.util.Map;
import java.util.function.BiConsumer;
import java.util.regex.Matcher;
import java.util.regex.Pattern;
import java.util.stream.Stream;
import javax.tools.ToolProvider;

/** README.md tells no wrong answers in its example, and has each call of the face in its table. */
public final class ReadmeTest {
    private static final Pattern ANSWER =
        Pattern.compile("(?:int (?<kept>\\w+) = )?(?<call>object\\.\\w+\\(.*\\));\\s*// (?<answer>-?\\d+): .*");
    private static final String EXAMPLE_START = "public final class Example {"
        + "public static void tell(java.util.function.BiConsumer<String, long[]> due) {\n";
    private static final Pattern CALL = Pattern.compile("`(\\w+)\\(([^)]*)\\)`( \\*)?");
    private static final Map<String, String> KINDS = Map.of("IndexOutOfBoundsException", "I",
        "IllegalArgumentException", "A", "IllegalStateException", "S");

    private ReadmeTest() {
    }

    public static void main(String[] args) throws Exception {
        List<String> lines = Files.readAllLines(Path.of("README.md"));
        runExample(exampleIn(lines));
        dueTable(lines);
        Checks.end("ReadmeTest");
    }

    private static List<String> exampleIn(List<String> lines) {
        int start = lines.indexOf("```java") + 1;
        List<String> rest = lines.subList(start, lines.size());
        return rest.subList(0, rest.indexOf("```"));
    }

    private static void runExample(List<String> example) throws Exception {
        StringBuilder source = new StringBuilder(EXAMPLE_START);
        int answers = 0;
        for (String line : example) {
            Matcher answer = ANSWER.matcher(line);
            boolean isAnswer = answer.matches();
            source.append(isAnswer ? checked(answer) : line).append('\n');
            answers += isAnswer ? 1 : 0;
        }
        Checks.due("README.md tells answers", answers > 10, true);
        compileAndRun(source.append("}}").toString());
    }

    private static String checked(Matcher answer) {
        String call = answer.group("call");
        String kept = answer.group("kept");
        String told = "\"README.md: " + call.replace("\"", "'") + "\"";
        String before = kept == null ? "" : "int " + kept + " = " + call + "; ";
        return before + "due.accept(" + told + ", new long[] {" + (kept == null ? call : kept) + ", "
            + answer.group("answer") + "});";
    }

    private static void compileAndRun(String source) throws Exception {
        Path place = Files.createTempDirectory("readme");
        try {
            Path file = Files.writeString(place.resolve("Example.java"), source);
            String path = System.getProperty("java.class.path");
            int code = ToolProvider.getSystemJavaCompiler().run(null, null, null, "-encoding", "UTF-8",
                "-cp", path, "-d", place.toString(), file.toString());
            Checks.due("the example of README.md compiles", code == 0, true);
            if (code == 0) {
                runClassIn(place);
            }
        } finally {
            remove(place);
        }
    }

    private static void runClassIn(Path place) throws Exception {
        URL[] places = {place.toUri().toURL()};
        // Another loader's class can't see Checks, so the example is handed what compares.
        BiConsumer<String, long[]> due = (call, answers) -> Checks.due(call, answers[0], answers[1]);
        try (URLClassLoader loader = new URLClassLoader(places, ReadmeTest.class.getClassLoader())) {
            loader.loadClass("Example").getMethod("tell", BiConsumer.class).invoke(null, due);
        }
    }

    private static void remove(Path place) throws IOException {
        try (Stream<Path> all = Files.walk(place)) {
            all.sorted(Comparator.reverseOrder()).map(Path::toFile).forEach(File::delete);
        }
    }

    private static void dueTable(List<String> lines) {
        Map<String, String> told = new HashMap<>();
        for (String line : lines) {
            String[] cells = line.split("\\|", -1);
            if (line.startsWith("| `") && cells.length == 5) {
                Matcher call = CALL.matcher(cells[1]);
                while (call.find()) {
                    told.put(call.group(1), parametersIn(call.group(2)) + " " + cells[3].strip());
                }
            }
        }
        int calls = 0;
        for (Method method : DealDoubts.class.getDeclaredMethods()) {
            if (Modifier.isPublic(method.getModifiers())) {
                String row = told.getOrDefault(method.getName(), "");
                Checks.due("README.md, row of " + method.getName() + ": " + row, row.equals(due(method)), true);
                calls++;
            }
        }
        Checks.due("calls in the table of README.md", told.size(), calls);
    }

    private static int parametersIn(String list) {
        return list.isEmpty() ? 0 : list.split(",").length;
    }

    private static String due(Method method) {
        List<String> kinds = new ArrayList<>();
        for (Class<?> kind : method.getExceptionTypes()) {
            kinds.add(KINDS.get(kind.getSimpleName()));
        }
        return method.getParameterCount() + " " + String.join(" ", kinds);
    }
}
