import java.io.IOException;
import java.nio.charset.StandardCharsets;
import java.nio.file.Files;
import java.nio.file.Path;
import java.util.Set;
import java.util.regex.Matcher;
import java.util.regex.Pattern;

/** LANGUAGE.md as far as the source's words show it: no throw, no lambda, only the library that is told. */
public final class LanguageTest {
    private static final Path SOURCE = Path.of("src/main/java/QuarterTurns.java");
    private static final Set<String> LIBRARY = Set.of("java.util.Arrays", "java.util.ArrayList", "java.util.List", "java.util.Iterator");
    private static final String[] WORDS = {"throw", "throws", "try", "catch", "finally", "synchronized", "assert", "protected",
        "package", "hashCode", "toString", "Object", "Thread", "Random", "Scanner", "volatile", "native", "var"};
    private static final int MOST_LINES = 60;
    private static final Due DUE = new Due("LanguageTest");

    public static void main(String[] args) throws IOException {
        String source = Files.readString(SOURCE, StandardCharsets.US_ASCII);
        String code = source.replaceAll("(?s)/\\*.*?\\*/", "").replaceAll("//[^\\n]*", "");
        for (String word : WORDS) {
            DUE.holds("no " + word, !Pattern.compile("\\b" + word + "\\b").matcher(code).find());
        }
        DUE.holds("no lambda, no arrow", !code.contains("->"));
        DUE.holds("no method reference", !code.contains("::"));
        DUE.holds("no Exact", !code.contains("Exact("));
        DUE.holds("no static block", !Pattern.compile("static\\s*\\{").matcher(code).find());
        DUE.holds("no loop without a condition", !Pattern.compile("while \\(true|for \\(;|;;\\)").matcher(code).find());
        imports(code);
        System.out.println("LanguageTest: the longest method has " + longestMethod(code) + " lines");
        DUE.holds("methods stay short", longestMethod(code) <= MOST_LINES);
        DUE.end();
    }

    private static void imports(String code) {
        Matcher m = Pattern.compile("import ([^;]+);").matcher(code);
        while (m.find()) {
            DUE.holds("import of " + m.group(1), LIBRARY.contains(m.group(1)));
        }
    }

    /** By the indent: a method's head and its closing bracket stand alike. */
    private static int longestMethod(String code) {
        int longest = 0;
        int start = 0;
        String indent = "";
        String[] lines = code.split("\n");
        for (int i = 0; i < lines.length; i++) {
            if (lines[i].matches(" {4,8}[a-z].*\\) \\{")) {
                start = i;
                indent = lines[i].replaceAll("\\S.*", "");
            } else if (lines[i].equals(indent + "}")) {
                longest = Math.max(longest, i - start + 1);
            }
        }
        return longest;
    }
}
