import java.io.IOException;
import java.net.URL;
import java.net.URLClassLoader;
import java.nio.file.Files;
import java.nio.file.Path;
import java.util.ArrayList;
import java.util.Comparator;
import java.util.List;
import java.util.Set;
import java.util.TreeSet;
import java.util.regex.Matcher;
import java.util.regex.Pattern;
import java.util.stream.Stream;
import javax.tools.ToolProvider;

/** README.md says what is so: its examples answer as told, and it has every call and test. */
public final class ReadmeTest {
    private static final Path README = Path.of("README.md"), TESTS = Path.of("src/test/java");
    private static final Pattern BLOCK = Pattern.compile("```java\n(.*?)```", Pattern.DOTALL);
    private static final Pattern ANSWERED = Pattern.compile("(int \\w+ = )?(.+?);\\s*// (-?\\d+)(?::.*)?");
    private static final Pattern BEGINS = Pattern.compile("FolderRows rows = new FolderRows\\(\\);(?:\\s*//.*)?");
    private static final Pattern CALL = Pattern.compile("^\\| `(\\w+\\([^)]*\\))` \\|", Pattern.MULTILINE);
    private static final Pattern TEST = Pattern.compile("^\\| `(\\w+)` \\|", Pattern.MULTILINE);
    private static final Checks c = new Checks();

    /** One call of an example, and what the page says that it answers. */
    private record Told(String call, long want) { }

    public static void main(String[] args) throws IOException, ReflectiveOperationException {
        c.promise(0, "README.md");
        String page = Files.readString(README);
        examples(page);
        c.holds("its calls are those of the face", found(CALL, page).equals(callsOfTheFace()));
        c.holds("its tests are those of the project", found(TEST, page).equals(testsOfTheProject()));
        c.end();
    }

    /** Each block becomes a method that answers what its calls answer, one behind the other. */
    private static void examples(String page) throws IOException, ReflectiveOperationException {
        List<List<Told>> told = new ArrayList<>();
        StringBuilder source = new StringBuilder("public final class ReadmeExamples {\n");
        Matcher block = BLOCK.matcher(page);
        while (block.find()) {
            List<Told> calls = new ArrayList<>();
            source.append("public static void block").append(told.size()).append("(java.util.List<Long> answers) {\n");
            for (String line : block.group(1).split("\n")) {
                source.append(statement(line, calls)).append('\n');
            }
            source.append("}\n");
            told.add(calls);
        }
        c.holds("there are examples", !told.isEmpty());
        Path dir = Files.createTempDirectory("readme");
        try {
            run(source.append("}\n").toString(), told, dir);
        } finally {
            remove(dir);
        }
    }

    private static String statement(String line, List<Told> calls) {
        Matcher answered = ANSWERED.matcher(line);
        if (!answered.matches()) {
            c.holds("a line tells its answer: " + line, BEGINS.matcher(line).matches());
            return line;
        }
        String call = answered.group(2);
        calls.add(new Told(call, Long.parseLong(answered.group(3))));
        if (answered.group(1) == null) {
            return "answers.add((long) " + call + ");";
        }
        String name = answered.group(1).split(" ")[1];
        return "int " + name + " = " + call + "; answers.add((long) " + name + ");";
    }

    private static void run(String source, List<List<Told>> told, Path dir)
            throws IOException, ReflectiveOperationException {
        Path file = Files.writeString(dir.resolve("ReadmeExamples.java"), source);
        String here = System.getProperty("java.class.path");
        int failed = ToolProvider.getSystemJavaCompiler()
            .run(null, null, null, "-cp", here, "-d", dir.toString(), file.toString());
        c.due("compiling the examples", failed, 0);
        if (failed != 0) {
            return;
        }
        try (URLClassLoader loader = new URLClassLoader(new URL[] {dir.toUri().toURL()})) {
            Class<?> examples = loader.loadClass("ReadmeExamples");
            for (int b = 0; b < told.size(); b++) {
                List<Long> answers = new ArrayList<>();
                examples.getMethod("block" + b, List.class).invoke(null, answers);
                for (int i = 0; i < answers.size(); i++) {
                    Told one = told.get(b).get(i);
                    c.due("example " + b + ": " + one.call(), answers.get(i), one.want());
                }
            }
        }
    }

    private static void remove(Path dir) throws IOException {
        try (Stream<Path> files = Files.walk(dir)) {
            for (Path file : files.sorted(Comparator.reverseOrder()).toList()) {
                Files.delete(file);
            }
        }
    }

    private static Set<String> found(Pattern row, String page) {
        Set<String> names = new TreeSet<>();
        Matcher m = row.matcher(page);
        while (m.find()) {
            c.holds(m.group(1) + " stands there once", names.add(m.group(1)));
        }
        return names;
    }

    /** The calls with the names of their numbers, as the document has them. */
    private static Set<String> callsOfTheFace() throws IOException {
        Set<String> names = new TreeSet<>();
        Matcher m = Pattern.compile("^    public (?:int|long) (\\w+)\\((.*)\\);$", Pattern.MULTILINE)
            .matcher(Files.readString(Path.of("../shared/DOC.md")));
        while (m.find()) {
            names.add(m.group(1) + "(" + m.group(2).replaceAll("(?:int|long) ", "") + ")");
        }
        return names;
    }

    private static Set<String> testsOfTheProject() throws IOException {
        Set<String> names = new TreeSet<>();
        try (Stream<Path> files = Files.list(TESTS)) {
            files.map(file -> file.getFileName().toString()).filter(name -> name.endsWith("Test.java"))
                .forEach(name -> names.add(name.replace(".java", "")));
        }
        return names;
    }
}
