import java.io.IOException;
import java.nio.file.Files;
import java.nio.file.Path;
import java.util.List;
import java.util.regex.Matcher;
import java.util.regex.Pattern;

/** What of LANGUAGE.md can be seen in the text of the class. Run from the project's own directory. */
public final class LanguageTest {
    private static final List<String> LIBRARY = List.of("Arrays.fill", "System.arraycopy", "Math.abs", "Math.max",
        "Math.min");

    public static void main(String[] args) throws IOException {
        String text = Files.readString(Path.of("src/main/java/PhaseLoads.java"));
        Check.holds("signs 1 to 127 alone", text.chars().allMatch(sign -> sign > 0 && sign < 128));
        String code = text.replaceAll("(?s)/\\*.*?\\*/", "").replaceAll("//[^\n]*", "");
        words(code);
        library(code);
        lengths(code);
        Check.end();
    }

    private static void words(String code) {
        String[] not = {"\\bthrows?\\b", "\\btry\\b", "\\bcatch\\b", "\\bfinally\\b", "\\bsynchronized\\b",
            "\\bassert\\b", "\\bpackage\\b", "\\bnative\\b", "\\bvolatile\\b", "->", "::", "\\bstatic\\s*\\{",
            "\\bvar\\b", "\\bdouble\\b", "\\bfloat\\b", "Exact\\b", "\"", "\\bprotected\\b", "@"};
        for (String word : not) {
            Check.holds("not in the language: " + word, !Pattern.compile(word).matcher(code).find());
        }
        Matcher loops = Pattern.compile("while \\(true\\)|for \\(;;\\)").matcher(code);
        Check.holds("every loop shows its end", !loops.find());
    }

    private static void library(String code) {
        Matcher imports = Pattern.compile("import ([^;]*);").matcher(code);
        while (imports.find()) {
            Check.holds("import " + imports.group(1), imports.group(1).equals("java.util.Arrays"));
        }
        Matcher calls = Pattern.compile("\\b(?:[A-Z][a-z]+)\\.[a-z]\\w*").matcher(code);
        while (calls.find()) {
            Check.holds("library " + calls.group(), LIBRARY.contains(calls.group()));
        }
        Matcher made = Pattern.compile("\\bnew (\\w+)").matcher(code);
        while (made.find()) {
            Check.holds("made: " + made.group(1),
                List.of("int", "Street", "Layings", "Steps", "Undos").contains(made.group(1)));
        }
    }

    /** A method begins and ends at the least deep line that has its brace. */
    private static void lengths(String code) {
        Pattern head = Pattern.compile("^( ++)(?!if|for|while|switch|else)[\\w\\[\\] ]+\\([^;]*\\) \\{$");
        String[] lines = code.split("\n");
        for (int i = 0; i < lines.length; i++) {
            Matcher method = head.matcher(lines[i]);
            if (method.matches() && method.group(1).length() <= 8) {
                int end = i;
                while (end < lines.length - 1 && !lines[end].equals(method.group(1) + "}")) {
                    end++;
                }
                Check.holds("sixty lines at most:" + lines[i], end - i < 60);
            }
        }
    }
}
