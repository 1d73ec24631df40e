import java.io.IOException;
import java.nio.file.Files;
import java.nio.file.Path;
import java.util.ArrayList;
import java.util.List;
import java.util.regex.Matcher;
import java.util.regex.Pattern;

/** The changes of the class that src/test/breaks.txt tells, each of which breaks a sentence of the document. */
final class Breaks {
    /** A text within a method, or within the whole file if the method is "*", and the text in its place. */
    record Change(String method, String from, String to) {
    }

    /** What is changed to break the quoted words of a part of the document, and the test that fails then. */
    record Break(int line, String part, String quote, List<Change> changes, String test) {
    }

    private static final Pattern CHANGE = Pattern.compile("    (\\+ )?(\\w+|\\*): (.+?) -> (.+?)(?:  \\[(\\w+)])?");

    private Breaks() {
    }

    static List<Break> read(Path path) throws IOException {
        List<Break> breaks = new ArrayList<>();
        List<String> lines = Files.readAllLines(path);
        String part = null;
        String quote = null;
        for (int i = 0; i < lines.size(); i++) {
            String line = lines.get(i);
            Matcher change = CHANGE.matcher(line);
            if (line.startsWith("## ")) {
                part = line.substring(3);
            } else if (part != null && change.matches()) {
                add(breaks, new Break(i + 1, part, quote, new ArrayList<>(), change.group(5)), change);
            } else if (part != null && !line.isBlank()) {
                quote = line;
            }
        }
        return breaks;
    }

    private static void add(List<Break> breaks, Break fresh, Matcher change) {
        if (change.group(1) == null) {
            breaks.add(fresh);
        }
        breaks.get(breaks.size() - 1).changes().add(new Change(change.group(2), change.group(3), change.group(4)));
    }

    /** The source with a break in it. */
    static String broken(String source, Break b) {
        String text = source;
        for (Change change : b.changes()) {
            int start = 0;
            int end = text.length();
            if (!change.method().equals("*")) {
                start = startOf(change.method(), text);
                end = endOf(start, text);
            }
            int found = text.indexOf(change.from(), start);
            int next = found < 0 ? found : text.indexOf(change.from(), found + 1);
            if (found < 0 || found >= end || next >= 0 && next < end) {
                throw new IllegalStateException("not found just once: " + change);
            }
            text = text.substring(0, found) + change.to() + text.substring(found + change.from().length());
        }
        return text;
    }

    /** Heads of methods stand four or eight signs from the edge, and so do their last braces. */
    private static int startOf(String method, String text) {
        Matcher head = Pattern.compile("(?m)^(?: {4}| {8})(?!return |throw |new )(?:[\\w\\[\\]]+ )*" + method
            + "\\([^;]*?\\{\n").matcher(text);
        if (!head.find()) {
            throw new IllegalStateException("no method " + method);
        }
        return head.start();
    }

    private static int endOf(int start, String text) {
        String edge = text.startsWith("        ", start) ? "        " : "    ";
        return text.indexOf("\n" + edge + "}\n", start);
    }
}
