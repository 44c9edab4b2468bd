import java.io.IOException;
import java.lang.invoke.MethodHandles;
import java.nio.file.Files;
import java.nio.file.Path;
import java.util.ArrayList;
import java.util.Arrays;
import java.util.Comparator;
import java.util.List;
import java.util.Map;
import java.util.TreeMap;
import java.util.regex.Matcher;
import java.util.regex.Pattern;
import java.util.stream.Collectors;
import java.util.stream.Stream;
import javax.tools.ToolProvider;

/** README.md tells the truth: its examples answer what it says, and its rows name the calls of the document's face. */
public final class ReadmeTest {
    private static final Pattern METHOD = Pattern.compile(" *public \\w+ (\\w+)\\((.*?)\\)(?: throws (.*))?;");
    private static final Pattern ROW = Pattern.compile("\\| `(\\w+)\\((.*?)\\)` \\|.*\\| ?(.*?) ?\\|");
    private static final Pattern WORD = Pattern.compile("\\| (\\w+) \\| `(\\w+)` \\|.*\\|");
    private static final Pattern STEP = Pattern.compile("((?:\\w+ (\\w+) = )?(.*)); +// (answers|throws) (\\w+).*");

    public static void main(String[] args) throws Exception {
        List<String> page = Files.readAllLines(Path.of("README.md"));
        rowsNameTheFace(page, Files.readAllLines(Path.of("../shared/DOC.md")));
        everyTestIsNamed(page);
        examplesAnswerWhatThePageSays(page);
        Check.end("ReadmeTest");
    }

    private static void rowsNameTheFace(List<String> page, List<String> document) {
        Map<String, String> words = new TreeMap<>();
        page.stream().map(WORD::matcher).filter(Matcher::matches).forEach(m -> words.put(m.group(1), m.group(2)));
        Map<String, String> told = new TreeMap<>();
        page.stream().map(ROW::matcher).filter(Matcher::matches)
                .forEach(m -> told.put(m.group(1), "(" + m.group(2) + ") " + exceptions(words, m.group(3))));
        Map<String, String> due = new TreeMap<>();
        document.stream().map(METHOD::matcher).filter(Matcher::matches).forEach(m ->
                due.put(m.group(1), "(" + names(m.group(2)) + ") " + (m.group(3) == null ? "" : m.group(3))));
        Check.is("methods in the document", due.size(), 41);
        Check.is("the rows of calls", told, due);
    }

    private static String exceptions(Map<String, String> words, String cell) {
        return Arrays.stream(cell.split(", ")).map(w -> words.getOrDefault(w, w)).collect(Collectors.joining(", "));
    }

    private static String names(String parameters) {
        return Arrays.stream(parameters.split(", ")).map(p -> p.substring(p.indexOf(' ') + 1))
                .collect(Collectors.joining(", "));
    }

    private static void everyTestIsNamed(List<String> page) throws IOException {
        try (Stream<Path> files = Files.list(Path.of("src/test/java"))) {
            for (Path file : files.sorted().collect(Collectors.toList())) {
                String name = file.getFileName().toString().replace(".java", "");
                Check.is(name + " is named", page.stream().anyMatch(line -> line.contains("`" + name)), true);
            }
        }
    }

    private static void examplesAnswerWhatThePageSays(List<String> page) throws Exception {
        List<String> body = new ArrayList<>();
        int blocks = 0;
        boolean inside = false;
        for (String line : page) {
            if (line.startsWith("```")) {
                inside = line.equals("```java");
                blocks += inside ? 1 : 0;
                body.add(inside ? "{" : line.equals("```") ? "}" : "");
            } else if (inside) {
                body.add(checked(line));
            }
        }
        Check.is("examples", blocks, 2);
        run(body);
    }

    /** A line that says what it answers becomes a check of that, a line that says nothing stays. */
    private static String checked(String line) {
        Matcher m = STEP.matcher(line);
        if (!m.matches()) {
            return line;
        }
        String call = m.group(2) == null ? m.group(3) : m.group(2);
        return (m.group(2) == null ? "" : m.group(1) + "; ")
                + "Check.is(\"" + m.group(1) + "\", Check.answer(() -> " + call + "), \"" + m.group(5) + "\");";
    }

    private static void run(List<String> body) throws Exception {
        Path folder = Files.createTempDirectory("readme");
        try {
            Path source = folder.resolve("Examples.java");
            Files.writeString(source, "public final class Examples { public static void main(String[] args) {\n"
                    + String.join("\n", body) + "\n} }\n");
            int failed = ToolProvider.getSystemJavaCompiler().run(null, null, null, "-cp",
                    System.getProperty("java.class.path"), "-d", folder.toString(), source.toString());
            Check.is("the examples compile", failed, 0);
            Class<?> examples = MethodHandles.lookup()
                    .defineClass(Files.readAllBytes(folder.resolve("Examples.class")));
            examples.getMethod("main", String[].class).invoke(null, (Object) new String[0]);
        } finally {
            try (Stream<Path> files = Files.walk(folder)) {
                files.sorted(Comparator.reverseOrder()).forEach(file -> file.toFile().delete());
            }
        }
    }
}
