import java.io.IOException;
import java.lang.reflect.Method;
import java.lang.reflect.Modifier;
import java.net.URL;
import java.net.URLClassLoader;
import java.nio.file.Files;
import java.nio.file.Path;
import java.util.ArrayList;
import java.util.List;
import java.util.regex.Matcher;
import java.util.regex.Pattern;
import java.util.stream.Stream;
import javax.tools.ToolProvider;

/** README.md tells the truth: its examples answer what stands behind them, it names all calls and all tests. */
public final class ReadmeTest {
    private static final Path README = Path.of("README.md");
    private static final Path TESTS = Path.of("src", "test", "java");
    private static final Pattern BLOCK = Pattern.compile("```java\n(.*?)```", Pattern.DOTALL);
    /* A statement that may name its answer, and the answer that the page tells behind it. */
    private static final Pattern TOLD = Pattern.compile("(?:int (\\w+) = )?(\\S.*);\\s+// (-?\\d+)(?: \\((\\w+)\\))?: .*");
    private static final Pattern MADE = Pattern.compile("SpokenBooks x = new SpokenBooks\\(\\);");
    private static final int LEAST_EXAMPLES = 30;

    private static int wrong;
    private static int examples;

    public static void main(String[] args) throws Exception {
        String page = Files.readString(README);
        runExamples(page);
        readAllLines(page);
        nameAllCalls(page);
        nameAllTests(page);
        must(examples >= LEAST_EXAMPLES, "only " + examples + " answers of examples were found");
        System.out.println(examples + " answers of examples, " + wrong + " not as told");
        if (wrong != 0) {
            System.exit(1);
        }
    }

    private static void must(boolean holds, String what) {
        if (!holds) {
            wrong++;
            System.out.println(what);
        }
    }

    /** Called by the examples' class. */
    public static void told(String line, int got, int want) {
        examples++;
        must(got == want, line + " answered " + got);
    }

    private static void runExamples(String page) throws Exception {
        StringBuilder methods = new StringBuilder();
        StringBuilder bodies = new StringBuilder();
        for (Matcher block = BLOCK.matcher(page); block.find();) {
            String text = block.group(1);
            if (text.startsWith("static ")) {
                methods.append(text);
            } else {
                bodies.append("{\n").append(asked(text)).append("}\n");
            }
        }
        compileAndRun("public final class Examples {\n" + methods + "public static void run() {\n" + bodies + "}\n}\n");
    }

    /** The lines of an example, each followed by a look at its answer. */
    private static String asked(String text) {
        StringBuilder lines = new StringBuilder();
        for (String line : text.split("\n")) {
            Matcher m = TOLD.matcher(line);
            if (!m.matches()) {
                must(MADE.matcher(line).matches(), "the page tells no answer of: " + line);
                lines.append(line).append('\n');
                continue;
            }
            String quoted = '"' + line.replace("\\", "\\\\").replace("\"", "\\\"") + '"';
            String answer = m.group(2);
            if (m.group(1) != null) {
                answer = m.group(1);
                lines.append("int ").append(answer).append(" = ").append(m.group(2)).append(";\n");
            }
            lines.append("ReadmeTest.told(").append(quoted).append(", ").append(answer).append(", ")
                .append(m.group(3)).append(");\n");
            if (m.group(4) != null) {
                lines.append("ReadmeTest.told(").append(quoted).append(", SpokenBooks.").append(m.group(4))
                    .append(", ").append(m.group(3)).append(");\n");
            }
        }
        return lines.toString();
    }

    private static void compileAndRun(String source) throws Exception {
        Path dir = Files.createTempDirectory("readme");
        Path file = dir.resolve("Examples.java");
        try {
            Files.writeString(file, source);
            int code = ToolProvider.getSystemJavaCompiler().run(null, null, null, "-proc:none", "-cp",
                System.getProperty("java.class.path"), "-d", dir.toString(), file.toString());
            must(code == 0, "the page's examples do not compile");
            if (code == 0) {
                try (URLClassLoader loader = new URLClassLoader(new URL[] {dir.toUri().toURL()})) {
                    loader.loadClass("Examples").getMethod("run").invoke(null);
                }
            }
        } finally {
            remove(dir);
        }
    }

    private static void remove(Path dir) throws IOException {
        List<Path> files = new ArrayList<>();
        try (Stream<Path> found = Files.list(dir)) {
            found.forEach(files::add);
        }
        for (Path file : files) {
            Files.delete(file);
        }
        Files.delete(dir);
    }

    /** Every line of the table of rules can be told, and what holds where it is not told is what the page says. */
    private static void readAllLines(String page) {
        List<String> numbers = List.of("loan", "days", "lag", "life", "again");
        int rows = 0;
        Pattern row = Pattern.compile("(?m)^\\| `([a-z]+) ([^`]*;)` +\\|.*\\| +(\\S.*?) +\\|$");
        for (Matcher m = row.matcher(page); m.find(); rows++) {
            must(Edges.tell(new SpokenBooks(), m.group(1) + " " + m.group(2)) == 1, "no line: " + m.group());
            int which = numbers.indexOf(m.group(1));
            must(which < 0 || m.group(3).equals("" + new SpokenBooks().rule(which)), "not so: " + m.group());
        }
        must(rows == numbers.size() + 2, rows + " lines of rules stand in the table");
    }

    /** The table of calls has every method of the face, with as many arguments as it takes, and no other. */
    private static void nameAllCalls(String page) {
        int named = 0;
        for (Matcher row = Pattern.compile("(?m)^\\| `(\\w+)\\(([^)]*)\\)` ").matcher(page); row.find();) {
            named++;
        }
        int face = 0;
        for (Method m : SpokenBooks.class.getDeclaredMethods()) {
            if (Modifier.isPublic(m.getModifiers())) {
                face++;
                String arguments = "\\w+(, \\w+){" + (m.getParameterCount() - 1) + "}";
                String call = m.getName() + "\\(" + (m.getParameterCount() == 0 ? "" : arguments) + "\\)";
                must(Pattern.compile("(?m)^\\| `" + call + "` ").matcher(page).find(), "no row tells of " + m);
            }
        }
        must(named == face, named + " calls have a row, the face has " + face);
    }

    private static void nameAllTests(String page) throws IOException {
        List<String> tests = new ArrayList<>();
        try (Stream<Path> found = Files.list(TESTS)) {
            found.map(p -> p.getFileName().toString()).filter(n -> n.endsWith("Test.java"))
                .forEach(n -> tests.add(n.substring(0, n.length() - ".java".length())));
        }
        for (String test : tests) {
            must(page.contains("- `" + test + "`: "), "the page says nothing of " + test);
        }
        for (Matcher m = Pattern.compile("(?m)^- `(\\w+Test)`: ").matcher(page); m.find();) {
            must(tests.contains(m.group(1)), "there is no test " + m.group(1));
        }
    }
}
