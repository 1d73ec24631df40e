import java.io.IOException;
import java.nio.charset.StandardCharsets;
import java.nio.file.Files;
import java.nio.file.Path;
import java.util.List;
import java.util.regex.Matcher;
import java.util.regex.Pattern;

/** The source keeps to what can be read off its text of LANGUAGE.md. It is found from the project's own folder. */
public final class BookTest {
    private static final Path SOURCE = Path.of("src", "main", "java", "Cavernbook.java");

    private BookTest() {
    }

    public static void main(String[] args) throws IOException {
        String text = Files.readString(SOURCE, StandardCharsets.UTF_8);
        String code = text.replaceAll("(?s)/\\*.*?\\*/", "").replaceAll("//[^\n]*", "");
        String bare = code.replaceAll("\"[^\"\n]*\"", "\"\"");
        Checks.due("signs above 127", 0, () -> count(text, "[^\\x00-\\x7F]"));
        Checks.due("a package", 0, () -> count(bare, "(?m)^package"));
        Checks.due("imports", List.of("java.util.Arrays", "java.util.NoSuchElementException").toString(),
            () -> imports(bare));
        Checks.due("lambdas and references", 0, () -> count(bare, "->|::"));
        Checks.due("words that the rules leave out", 0, () -> count(bare,
            "\\b(try|catch|finally|synchronized|assert|native|var|instanceof|System|Thread|Random|Object|Map|Set)\\b"));
        Checks.due("functions whose name ends in Exact", 0, () -> count(bare, "Exact\\s*\\("));
        Checks.due("functions of Math, Integer, Long beyond the named ones", 0,
            () -> count(bare, "\\b(Math|Integer|Long)\\.(?!max\\(|min\\(|abs\\(|bitCount\\()"));
        Checks.due("functions of Arrays beyond fill", 0, () -> count(bare, "\\bArrays\\.(?!fill\\()"));
        Checks.due("loops without an end", 0, () -> count(bare, "while \\(true\\)|for \\([^)]*;\\s*;"));
        Checks.due("texts joined by +", 0, () -> count(bare, "\"\"\\s*\\+|\\+\\s*\"\""));
        Checks.due("more than twelve classes", true, () -> count(bare, "\\b(class|record|enum|interface) [A-Z]") <= 12);
        Checks.due("methods above sixty lines", "", () -> longMethods(text));
        Checks.due("more than seven parameters but in the face", 1, () -> count(bare,
            "(?m)^ +[\\w\\[\\] ]+ \\w+\\((?:[\\w\\[\\]]+ \\w+, ){7}"));
        Checks.finish();
    }

    private static int count(String text, String pattern) {
        Matcher m = Pattern.compile(pattern).matcher(text);
        int found = 0;
        while (m.find()) {
            found++;
        }
        return found;
    }

    private static String imports(String text) {
        return Pattern.compile("(?m)^import ([\\w.]+);").matcher(text).results().map(r -> r.group(1)).toList()
            .toString();
    }

    /** Heads are told by their indent and the brace at the end; their bodies end at the brace below the head. */
    private static String longMethods(String text) {
        StringBuilder names = new StringBuilder();
        String[] lines = text.split("\n");
        for (int i = 0; i < lines.length; i++) {
            int indent = lines[i].length() - lines[i].stripLeading().length();
            boolean head = lines[i].endsWith("{") && lines[i].contains("(") && (indent == 4 || indent == 8);
            int end = i;
            while (head && end < lines.length && !lines[end].equals(" ".repeat(indent) + "}")) {
                end++;
            }
            if (end - i > 60) {
                names.append(lines[i].strip()).append('\n');
            }
        }
        return names.toString();
    }
}
