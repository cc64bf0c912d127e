import java.io.IOException;
import java.io.PrintWriter;
import java.io.StringWriter;
import java.lang.reflect.Method;
import java.lang.reflect.Modifier;
import java.net.URL;
import java.net.URLClassLoader;
import java.nio.file.Files;
import java.nio.file.Path;
import java.util.ArrayList;
import java.util.List;
import java.util.Set;
import java.util.TreeSet;
import java.util.regex.Matcher;
import java.util.regex.Pattern;
import java.util.spi.ToolProvider;
import java.util.stream.Stream;

/** What README.md shows is so: its program is compiled and run, its texts are read, its tables are whole. */
public final class ReadmeTest {
    private static final Path TESTS = Path.of("src/test/java");
    private static final Pattern BLOCK = Pattern.compile("(?s)```java\\n(.*?)```");
    private static final Pattern ANSWERED = Pattern.compile("(int \\w+ = )?(x\\.(\\w+)\\(.*\\)); +// (-?\\d+|[A-Z]+)\\b.*");
    private static final Due DUE = new Due("ReadmeTest");

    public static void main(String[] args) throws IOException, ReflectiveOperationException {
        String readme = Files.readString(Path.of("README.md"));
        programRuns(readme);
        textsAreRead(readme);
        callsAreAllThere(readme);
        testsAreAllThere(readme);
        constantsAreSo(readme);
        DUE.holds(".ci/run can be run", Files.isExecutable(Path.of(".ci/run")));
        DUE.end();
    }

    /** Called by the program of README.md behind each call that it shows an answer of. */
    public static void shown(String call, long got, long want) {
        DUE.is(call, got, want);
    }

    private static void programRuns(String readme) throws IOException, ReflectiveOperationException {
        Matcher block = BLOCK.matcher(readme);
        DUE.holds("there is a program", block.find());
        StringBuilder program = new StringBuilder("public final class Shown {\n public static void main(String[] args) {\n");
        int answers = 0;
        for (String line : block.group(1).split("\n")) {
            Matcher m = ANSWERED.matcher(line);
            if (m.matches()) {
                program.append(checked(m)).append('\n');
                answers++;
            } else {
                program.append(line).append('\n');
            }
        }
        DUE.holds("the program shows answers", answers > 10);
        run(program.append("}\n}\n").toString());
    }

    private static String checked(Matcher m) {
        String want = m.group(4).matches("[A-Z]+") ? "QuarterTurns." + m.group(4) : m.group(4);
        String name = m.group(1) == null ? "" : m.group(1).replaceAll("^int | = $", "");
        String got = name.isEmpty() ? m.group(2) : name;
        String first = name.isEmpty() ? "" : m.group(1) + m.group(2) + "; ";
        return first + "ReadmeTest.shown(\"" + m.group(2) + "\", " + got + ", " + want + ");";
    }

    private static void run(String program) throws IOException, ReflectiveOperationException {
        Path folder = Files.createTempDirectory("shown");
        Path source = folder.resolve("Shown.java");
        Files.writeString(source, program);
        StringWriter said = new StringWriter();
        PrintWriter out = new PrintWriter(said);
        int code = ToolProvider.findFirst("javac").orElseThrow().run(out, out, "-cp", System.getProperty("java.class.path"),
            "-d", folder.toString(), source.toString());
        DUE.is("README.md's program compiles: " + said, code, 0);
        if (code == 0) {
            try (URLClassLoader loader = new URLClassLoader(new URL[] {folder.toUri().toURL()})) {
                loader.loadClass("Shown").getMethod("main", String[].class).invoke(null, (Object) new String[0]);
            }
        }
        try (Stream<Path> made = Files.list(folder)) {
            for (Path file : made.toList()) {
                Files.delete(file);
            }
        }
        Files.delete(folder);
    }

    /** The rows of the table whose head begins with a word, each as its first two cells. */
    private static List<String[]> table(String readme, String head) {
        List<String[]> rows = new ArrayList<>();
        boolean inside = false;
        for (String line : readme.split("\n")) {
            if (inside && !line.startsWith("|")) {
                return rows;
            }
            if (inside && !line.startsWith("| ---")) {
                String[] cells = line.split("\\|");
                rows.add(new String[] {cells[1].trim().replace("`", ""), cells[2].trim()});
            }
            inside |= line.startsWith("| " + head + " |");
        }
        return rows;
    }

    private static void textsAreRead(String readme) {
        List<String[]> rows = table(readme, "text");
        DUE.holds("there are texts", rows.size() >= 5);
        for (String[] row : rows) {
            DUE.is("bed() of '" + row[0] + "'", Due.bed(new QuarterTurns(), row[0]), Long.parseLong(row[1]));
        }
    }

    private static void callsAreAllThere(String readme) {
        Set<String> due = new TreeSet<>();
        for (Method method : QuarterTurns.class.getDeclaredMethods()) {
            if (Modifier.isPublic(method.getModifiers())) {
                due.add(method.getName() + " with " + method.getParameterCount());
            }
        }
        Set<String> told = new TreeSet<>();
        for (String[] row : table(readme, "call")) {
            String inside = row[0].replaceAll(".*\\(|\\)", "");
            told.add(row[0].replaceAll("\\(.*", "") + " with " + (inside.isEmpty() ? 0 : inside.split(",").length));
        }
        DUE.holds("the calls are " + due + ", told are " + told, due.equals(told));
    }

    private static void testsAreAllThere(String readme) throws IOException {
        Set<String> due = new TreeSet<>();
        try (Stream<Path> files = Files.list(TESTS)) {
            files.map(file -> file.getFileName().toString()).filter(name -> name.endsWith("Test.java"))
                .forEach(name -> due.add(name.replace(".java", "")));
        }
        Set<String> told = new TreeSet<>();
        for (String[] row : table(readme, "test")) {
            told.add(row[0]);
        }
        DUE.holds("the tests are " + due + ", told are " + told, due.equals(told));
    }

    private static void constantsAreSo(String readme) throws ReflectiveOperationException {
        String words = readme.replaceAll("\\s+", " ");
        for (String name : new String[] {"BAD", "STATE", "FULL", "NONE", "NO"}) {
            int value = QuarterTurns.class.getField(name).getInt(null);
            boolean so = words.contains("`" + name + "` (" + value) || words.contains("`" + name + "`, " + value);
            DUE.holds("README.md tells " + name + " as " + value, so);
        }
    }
}
