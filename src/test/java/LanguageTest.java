import java.io.IOException;
import java.nio.file.Files;
import java.nio.file.Path;
import java.util.List;
import java.util.regex.Matcher;
import java.util.regex.Pattern;

/** What of ../shared/LANGUAGE.md can be seen from the text of the program. Run from the project's own folder. */
final class LanguageTest {
    private static final List<String> FORBIDDEN = List.of(
            "\\b(throw|throws|try|catch|finally|synchronized|assert|import|package|protected|volatile|native)\\b",
            "\\b(equals|hashCode|toString|getClass|Exact|Thread|Random|Object|System\\.(?!arraycopy\\b)\\w+)\\b",
            "->", "::", "@", "\\bvar\\b", "\\bfloat\\b", "\\bdouble\\b", "\"", "\\bnew \\w+\\(.*\\)\\s*\\{");

    public static void main(String[] args) throws IOException {
        String text = Files.readString(Path.of("src/main/java/BreweryCellar.java"));
        for (char sign : text.toCharArray()) {
            if (sign > 126 || sign < 32 && sign != '\n') {
                Check.holds("the program has plain signs alone, not " + (int) sign, false);
            }
        }
        String code = text.replaceAll("(?s)/\\*.*?\\*/", "").replaceAll("//.*", "");
        for (String one : FORBIDDEN) {
            Matcher found = Pattern.compile(one).matcher(code);
            Check.holds("the program goes without " + one, !found.find());
        }
        methodsAreShort(code);
        Check.finish();
    }

    private static void methodsAreShort(String code) {
        int start = 0;
        int longest = 0;
        int level = 0;
        String[] lines = code.split("\n");
        for (int i = 0; i < lines.length; i++) {
            String line = lines[i];
            if (line.matches("\\s+.*\\).* \\{") && !line.matches("\\s+(if|for|while|switch|\\}).*")
                    && line.indexOf(line.strip()) <= 8 && level == 0) {
                start = i;
                level = line.indexOf(line.strip());
            } else if (level > 0 && line.equals(" ".repeat(level) + "}")) {
                longest = Math.max(longest, i - start + 1);
                level = 0;
            }
        }
        Check.holds("methods were found, and none has over 60 lines: " + longest, longest > 20 && longest <= 60);
    }
}
