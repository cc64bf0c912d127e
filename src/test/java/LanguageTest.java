import java.io.IOException;
import java.nio.charset.StandardCharsets;
import java.nio.file.Files;
import java.nio.file.Path;
import java.util.Map;
import java.util.Set;
import java.util.TreeMap;
import java.util.TreeSet;
import java.util.regex.Matcher;
import java.util.regex.Pattern;

/** LANGUAGE.md as far as the source's words show it: no throw, no lambda, only the library that is told, calls not too deep. */
public final class LanguageTest {
    private static final Path SOURCE = Path.of("src/main/java/QuarterTurns.java");
    private static final Set<String> IMPORTS = Set.of("java.util.Arrays", "java.util.ArrayList", "java.util.List", "java.util.Iterator");
    private static final Set<String> LIBRARY = Set.of("Math.max", "Math.min", "Math.abs", "Math.floorDiv", "Math.floorMod",
        "Integer.compare", "Integer.bitCount", "Integer.max", "Integer.min", "Long.compare", "Long.bitCount", "Long.max", "Long.min",
        "System.arraycopy", "Arrays.copyOf", "Arrays.copyOfRange", "Arrays.fill", "List.of");
    private static final String[] WORDS = {"throw", "throws", "try", "catch", "finally", "synchronized", "assert", "protected",
        "package", "hashCode", "toString", "Object", "Thread", "Random", "Scanner", "volatile", "native", "var", "double", "float"};
    private static final Set<String> NO_CALLS = Set.of("if", "for", "while", "switch", "return", "new");
    private static final Pattern HEAD = Pattern.compile("( {4,8})(?:[a-z]+ )*(?:[A-Za-z]+(?:\\[\\])? )?([A-Za-z]+)\\([^)]*\\) \\{");
    private static final Pattern CALL = Pattern.compile("\\b([A-Za-z]+)\\(");
    private static final int MOST_LINES = 60;
    private static final int DEEPEST = 8;
    private static final Due DUE = new Due("LanguageTest");

    public static void main(String[] args) throws IOException {
        String source = Files.readString(SOURCE, StandardCharsets.US_ASCII);
        String code = source.replaceAll("(?s)/\\*.*?\\*/", "").replaceAll("//[^\\n]*", "");
        for (String word : WORDS) {
            DUE.holds("no " + word, !Pattern.compile("\\b" + word + "\\b").matcher(code).find());
        }
        DUE.holds("no lambda, no arrow", !code.contains("->"));
        DUE.holds("no method reference", !code.contains("::"));
        DUE.holds("no Exact", !code.contains("Exact("));
        DUE.holds("no text joined by +", !code.contains("\""));
        DUE.holds("no static block", !Pattern.compile("static\\s*\\{").matcher(code).find());
        DUE.holds("no loop without a condition", !Pattern.compile("while \\(true|for \\(;|;;\\)").matcher(code).find());
        imports(code);
        library(code);
        methods(code);
        DUE.end();
    }

    private static void imports(String code) {
        Matcher m = Pattern.compile("import ([^;]+);").matcher(code);
        while (m.find()) {
            DUE.holds("import of " + m.group(1), IMPORTS.contains(m.group(1)));
        }
    }

    /** Rule 4: a call by a class's name is one of the library's that is told. */
    private static void library(String code) {
        Matcher m = Pattern.compile("\\b([A-Z][A-Za-z]*\\.[a-z][A-Za-z]*)\\(").matcher(code);
        while (m.find()) {
            DUE.holds(m.group(1) + " may be used", LIBRARY.contains(m.group(1)));
        }
    }

    /** Rules 8 and 11: methods stay short, only goOn() calls itself, and calls go eight deep at most. */
    private static void methods(String code) {
        Map<String, Set<String>> calls = new TreeMap<>();
        int longest = 0;
        String[] lines = code.split("\n");
        for (int i = 0; i < lines.length; i++) {
            Matcher head = HEAD.matcher(lines[i]);
            if (!head.matches() || NO_CALLS.contains(head.group(2))) {
                continue;
            }
            Set<String> called = calls.computeIfAbsent(head.group(2), name -> new TreeSet<>());
            int end = i + 1;
            while (!lines[end].equals(head.group(1) + "}")) {
                addCalls(lines[end], called);
                end++;
            }
            longest = Math.max(longest, end - i + 1);
        }
        int deepest = 0;
        for (String name : calls.keySet()) {
            deepest = Math.max(deepest, depth(name, calls, 1));
        }
        System.out.println("LanguageTest: " + calls.size() + " names of methods, the longest has " + longest + " lines, calls go "
            + deepest + " deep");
        DUE.holds("the methods are found", calls.size() > 50 && longest > 10 && deepest > 4);
        DUE.holds("methods stay short", longest <= MOST_LINES);
        DUE.holds("calls stay shallow", deepest <= DEEPEST);
        for (Map.Entry<String, Set<String>> entry : calls.entrySet()) {
            boolean itself = entry.getValue().contains(entry.getKey());
            DUE.holds(entry.getKey() + "() calls itself only if it is goOn()", itself == entry.getKey().equals("goOn"));
        }
    }

    private static void addCalls(String line, Set<String> called) {
        Matcher m = CALL.matcher(line);
        while (m.find()) {
            if (!NO_CALLS.contains(m.group(1))) {
                called.add(m.group(1));
            }
        }
    }

    /** By names alone: methods of one name count as one, and the library's as one level. */
    private static int depth(String name, Map<String, Set<String>> calls, int level) {
        int deepest = level;
        if (level <= DEEPEST && calls.containsKey(name)) {
            for (String called : calls.get(name)) {
                deepest = Math.max(deepest, called.equals(name) ? level : depth(called, calls, level + 1));
            }
        }
        return deepest;
    }
}
