import java.io.IOException;
import java.nio.file.Files;
import java.nio.file.Path;
import java.util.ArrayList;
import java.util.Comparator;
import java.util.List;
import java.util.regex.Matcher;
import java.util.regex.Pattern;
import java.util.stream.Stream;

/**
 * The example of README.md is compiled and run as it tells, and prints what stands behind its lines; and each file of
 * the tests is named there.
 */
public final class ReadmeTest {
    private static final Path README = Path.of("README.md");
    private static final Path SOURCE = Path.of("src", "main", "java", "Cavernbook.java");

    private ReadmeTest() {
    }

    public static void main(String[] args) throws Exception {
        String text = Files.readString(README);
        String example = block(text, "java");
        String[] commands = block(text, "sh").split("\n");
        Path place = Files.createTempDirectory("readme");
        try {
            Files.copy(SOURCE, place.resolve("Cavernbook.java"));
            Files.writeString(place.resolve("Trip.java"), example);
            Checks.due(commands[0], "", () -> output(place, commands[0]));
            String printed = output(place, commands[1]);
            compare(told(example), List.of(printed.split("\n")));
        } finally {
            remove(place);
        }
        namesEveryTest(text);
        Checks.finish();
    }

    private static void namesEveryTest(String text) throws IOException {
        try (Stream<Path> files = Files.list(Path.of("src", "test", "java"))) {
            for (Path file : files.sorted().toList()) {
                String name = file.getFileName().toString();
                String plain = "`" + name.replaceAll("\\.java$", "") + "`";
                Checks.due("is named: " + name, true, () -> text.contains(plain) || text.contains("`" + name + "`"));
            }
        }
    }

    private static String block(String text, String kind) {
        Matcher m = Pattern.compile("(?s)```" + kind + "\n(.*?)```").matcher(text);
        return m.find() ? m.group(1) : "";
    }

    /** What stands behind the lines that print: up to a comma or a colon, if there is one. */
    private static List<String> told(String example) {
        List<String> told = new ArrayList<>();
        for (String line : example.split("\n")) {
            if (line.contains("System.out.println(")) {
                Matcher m = Pattern.compile("// (true|false|-?[0-9.]+|[^,:]+)").matcher(line);
                told.add(m.find() ? m.group(1) : "nothing is told behind " + line.strip());
            }
        }
        return told;
    }

    private static void compare(List<String> told, List<String> printed) {
        Checks.due("lines that are printed", told.size(), () -> printed.size());
        Checks.due("lines enough to show the class", true, () -> told.size() > 30);
        for (int i = 0; i < Math.min(told.size(), printed.size()); i++) {
            String line = printed.get(i);
            Checks.due("line " + i, told.get(i), () -> line);
        }
    }

    private static String output(Path place, String command) {
        try {
            Process process = new ProcessBuilder(command.split(" ")).directory(place.toFile())
                .redirectErrorStream(true).start();
            String printed = new String(process.getInputStream().readAllBytes());
            return process.waitFor() == 0 ? printed : "exit code " + process.exitValue() + ": " + printed;
        } catch (IOException | InterruptedException e) {
            return "not run: " + e;
        }
    }

    private static void remove(Path place) throws IOException {
        try (Stream<Path> files = Files.walk(place)) {
            for (Path file : files.sorted(Comparator.reverseOrder()).toList()) {
                Files.delete(file);
            }
        }
    }
}
