import java.nio.charset.StandardCharsets;
import java.nio.file.Files;
import java.nio.file.Path;
import java.util.Arrays;
import java.util.HashSet;
import java.util.Set;
import java.util.regex.Matcher;
import java.util.regex.Pattern;

/** What of ../shared/LANGUAGE.md can be seen by the program's text. Runs from the project's folder. */
public final class RulesTest {
    private static final String FILE = "src/main/java/MaidsMemory.java";
    private static final Set<String> FORBIDDEN = new HashSet<>(Arrays.asList(
        "throw", "throws", "try", "catch", "finally", "synchronized", "assert", "import", "package", "protected", "volatile",
        "transient", "native", "strictfp", "float", "double", "var", "yield", "instanceof", "Object", "Thread", "Runtime",
        "Random", "Scanner", "File", "Optional", "Stream", "equals", "hashCode", "toString", "String"));
    private static final Set<String> LIBRARY = new HashSet<>(Arrays.asList(
        "System.arraycopy", "Math.min", "Math.max", "Integer.bitCount"));

    public static void main(String[] args) throws Exception {
        String text = bare(new String(Files.readAllBytes(Path.of(FILE)), StandardCharsets.UTF_8));
        words(text);
        library(text);
        methods(text);
        Due.end("RulesTest");
    }

    /** The text without comments and without what stands between quotes. */
    private static String bare(String text) {
        String plain = text.replaceAll("(?s)/\\*.*?\\*/", " ").replaceAll("//[^\n]*", " ");
        return plain.replaceAll("'[^']'", "0").replaceAll("\"[^\"]*\"", "0");
    }

    private static void words(String text) {
        Matcher word = Pattern.compile("[A-Za-z_][A-Za-z_0-9]*").matcher(text);
        while (word.find()) {
            Due.holds("forbidden: " + word.group(), !FORBIDDEN.contains(word.group()));
            Due.holds("forbidden: " + word.group(), !word.group().endsWith("Exact"));
        }
        Due.holds("no lambda, no method reference", !text.contains("->") && !text.contains("::"));
        Due.holds("no marks", !text.contains("@"));
        Due.is("one public class", text.split("\\bpublic final class\\b", -1).length - 1, 1);
    }

    private static void library(String text) {
        Matcher call = Pattern.compile("\\b(System|Math|Integer|Long|Arrays|Character|Boolean)\\.[A-Za-z_]+").matcher(text);
        while (call.find()) {
            Due.holds("not in the library: " + call.group(), LIBRARY.contains(call.group()));
        }
        Matcher made = Pattern.compile("\\bnew\\s+([A-Za-z]+)").matcher(text);
        Set<String> kinds = new HashSet<>(Arrays.asList("int", "long"));
        Matcher own = Pattern.compile("\\bclass\\s+([A-Za-z]+)").matcher(text);
        while (own.find()) {
            kinds.add(own.group(1));
        }
        while (made.find()) {
            Due.holds("made: " + made.group(1), kinds.contains(made.group(1)));
        }
    }

    /** No method is longer than sixty lines; a line is no longer than 130 signs. */
    private static void methods(String text) {
        String[] lines = text.split("\n", -1);
        int begin = -1;
        for (int i = 0; i < lines.length; i++) {
            Due.holds("a long line: " + (i + 1), lines[i].length() <= 130);
            boolean opens = lines[i].matches(" {4}( {4})?[A-Za-z].*\\) \\{");
            if (opens) {
                begin = i;
            } else if (begin >= 0 && lines[i].matches(" {4}( {4})?\\}")) {
                Due.holds("a long method: " + lines[begin].trim(), i - begin < 60);
                begin = -1;
            }
        }
    }
}
