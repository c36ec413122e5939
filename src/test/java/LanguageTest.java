import java.io.IOException;
import java.nio.file.Files;
import java.nio.file.Path;
import java.util.List;
import java.util.regex.Matcher;
import java.util.regex.Pattern;

/** LANGUAGE.md: what can be told from the words of the source alone. */
public final class LanguageTest {
    private static final Kit kit = new Kit();
    private static final String[] RULED_OUT = {
        "\\bpackage\\b", "->", "::", "\\btry\\b", "\\bcatch\\b", "\\bfinally\\b", "\\bsynchronized\\b", "\\bassert\\b",
        "\\bvolatile\\b", "\\bnative\\b", "Exact\\(", "\\bstatic \\{", "\\bequals\\b", "\\bhashCode\\b", "\\btoString\\b",
        "\\bgetMessage\\b", "\\bSystem\\.(?!arraycopy)", "\\bThread\\b", "\\bRandom\\b", "\\bNaN\\b", "\\bStrictMath\\b",
        "\" *\\+|\\+ *\"", "\\bgoto\\b", "\\bObject\\b", "\\bstrictfp\\b"};
    private static final String THROWN = "IllegalStateException|IllegalArgumentException|IndexOutOfBoundsException"
        + "|ArithmeticException|UnsupportedOperationException|NoSuchElementException|RuntimeException";

    public static void main(String[] args) throws IOException {
        String source = Files.readString(Path.of("src/main/java/Discoverhall.java"));
        String code = source.replaceAll("(?s)/\\*.*?\\*/", "").replaceAll("//[^\n]*", "");
        String wordless = code.replaceAll("\"[^\"\n]*\"", "\"\"");
        for (String ruledOut : RULED_OUT) {
            kit.due("without " + ruledOut, "", () -> found(ruledOut, wordless));
        }
        kit.due("imports", "import java.util.NoSuchElementException;", () -> found("import [^;]*;", code));
        kit.due("throws nothing else", "", () -> found("throw (?!new (" + THROWN + ")\\(\"[^\"]*\"\\);)[^;]*;", code));
        kit.due("signs of 1 to 127", "", () -> found("[^\\x01-\\x7f]", source));
        dueShortMethods(code.lines().toList());
        kit.finish();
    }

    /** All places joined, empty if there is none. */
    private static String found(String words, String code) {
        StringBuilder found = new StringBuilder();
        Matcher matcher = Pattern.compile(words).matcher(code);
        while (matcher.find()) {
            found.append(matcher.group());
        }
        return found.toString();
    }

    /** Rule 11: a method begins where a line ends its parameters, and ends at the brace below its first sign. */
    private static void dueShortMethods(List<String> lines) {
        Pattern head = Pattern.compile("( {4}| {8})(?!return|new|if|for|while|switch|throw)[A-Za-z][^=;]*\\(.*");
        for (int first = 0; first < lines.size(); first++) {
            Matcher matcher = head.matcher(lines.get(first));
            if (matcher.matches() && !lines.get(first).endsWith(";")) {
                int end = lines.subList(first, lines.size()).indexOf(matcher.group(1) + "}");
                kit.due("method of some 60 lines: " + lines.get(first).trim(), true, () -> end >= 0 && end <= 60);
            }
        }
    }
}
