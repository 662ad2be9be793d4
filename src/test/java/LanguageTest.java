import java.io.IOException;
import java.nio.charset.StandardCharsets;
import java.nio.file.Files;
import java.nio.file.Path;
import java.util.regex.Matcher;
import java.util.regex.Pattern;

/** What of ../shared/LANGUAGE.md can be told by the words of the file alone; run where the project stands. */
public final class LanguageTest {
    private static final String[] FORBIDDEN = {
        "^\\s*(package|import)\\b", "\\b(throw|throws|try|catch|finally|synchronized|assert|native|volatile)\\b",
        "->", "::", "\\bstatic\\s*\\{", "\\b(hashCode|toString|clone|finalize)\\s*\\(", "\\bObject\\b", "\\bSystem\\.(?!arraycopy)",
        "\\bThread\\b", "\\bRandom\\b", "\\bMath\\.\\w*Exact\\b", "\\bMath\\.random\\b", "\\bnew\\s+\\w+\\s*\\([^)]*\\)\\s*\\{",
        "\\binstanceof\\b.*\\(", "[^\\x00-\\x7f]", "\\bwhile\\s*\\(true\\)", "\\bfor\\s*\\(;;\\)"};

    public static void main(String[] args) throws IOException {
        String text = Files.readString(Path.of("src/main/java/LandingGears.java"), StandardCharsets.UTF_8);
        String code = text.replaceAll("(?s)/\\*.*?\\*/", "").replaceAll("//[^\\n]*", "");
        for (String words : FORBIDDEN) {
            Matcher found = Pattern.compile(words, Pattern.MULTILINE).matcher(code);
            Due.is("rule against " + words, found.find(), false);
        }
        Due.is("classes, at most twelve", count(code, "\\b(class|record|enum|interface)\\s+\\w+") <= 12, true);
        Due.is("static fields are final", count(code, "\\bstatic\\s+(?!final\\b)[\\w\\[\\]]+\\s+\\w+\\s*[=;]"), 0);
        Due.is("classes inside are private, static and final",
            count(code, "(?m)^    .*\\bclass\\s+\\w+") - count(code, "(?m)^    private static final class \\w+ \\{$"), 0);
        longestMethod(text);
        Due.end();
    }

    private static int count(String code, String words) {
        Matcher found = Pattern.compile(words).matcher(code);
        int n = 0;
        while (found.find()) {
            n++;
        }
        return n;
    }

    /** "Methods stay short (some sixty lines)": a method ends where its own indentation comes back. */
    private static void longestMethod(String text) {
        String[] lines = text.split("\n");
        for (int i = 0; i < lines.length; i++) {
            Matcher head = Pattern.compile("^( +)[\\w\\[\\] ]+\\([^)]*\\) \\{$").matcher(lines[i]);
            if (head.find() && !lines[i].trim().startsWith("for ") && !lines[i].trim().startsWith("if ")) {
                int end = i;
                while (end < lines.length && !lines[end].equals(head.group(1) + "}")) {
                    end++;
                }
                Due.is("lines of " + lines[i].trim(), end - i <= 60, true);
            }
        }
    }
}
