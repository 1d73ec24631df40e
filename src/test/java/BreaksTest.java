import java.io.OutputStream;
import java.io.PrintStream;
import java.lang.reflect.InvocationTargetException;
import java.nio.file.Files;
import java.nio.file.Path;
import java.util.ArrayList;
import java.util.HashMap;
import java.util.List;
import java.util.Map;
import java.util.TreeMap;
import java.util.concurrent.ExecutorService;
import java.util.concurrent.Executors;
import java.util.concurrent.Future;
import java.util.concurrent.TimeUnit;
import java.util.concurrent.TimeoutException;

/**
 * Each sentence of the Terms and of the promises has a test that fails if the sentence is broken: breaks.txt breaks
 * them one by one, and here each break is compiled, and the test that it names is run against it. The first sentence
 * of "What it is" is but a title.
 */
public final class BreaksTest {
    private static final Path DOCUMENT = Path.of("..", "shared", "DOC.md");
    private static final Path SOURCE = Path.of("src", "main", "java", "Cavernbook.java");
    private static final Path BREAKS = Path.of("src", "test", "breaks.txt");
    private static final List<String> TESTS = List.of("StationsTest", "PlacesTest", "WaterTest", "PartiesTest",
        "SumsTest", "TermsTest", "BoundsTest", "OrderTest", "RowsTest", "GreatestTest");

    private BreaksTest() {
    }

    public static void main(String[] args) throws Exception {
        Map<String, List<String>> document = sentences(Files.readString(DOCUMENT));
        List<Breaks.Break> breaks = Breaks.read(BREAKS);
        for (Breaks.Break b : breaks) {
            Checks.due("line " + b.line() + " quotes " + b.part(), true, () -> isQuoted(b, document));
        }
        for (Map.Entry<String, List<String>> part : document.entrySet()) {
            for (String sentence : part.getValue()) {
                Checks.due("a break in " + part.getKey() + " of: " + sentence, true,
                    () -> breaks.stream().anyMatch(b -> breaks(b, part.getKey(), sentence)));
            }
        }
        tryAll(breaks, Files.readString(SOURCE));
        Checks.finish();
    }

    // ---- the document

    /** The sentences of the Terms and of what it is, and the paragraphs of each promise, by the heads of these. */
    private static Map<String, List<String>> sentences(String text) {
        Map<String, List<String>> parts = new TreeMap<>();
        for (String part : text.split("(?m)^## ")) {
            String head = part.lines().findFirst().orElse("");
            String body = part.substring(head.length()).replaceAll("<h2>.*?</h2>", "");
            List<String> all = List.of(plain(body).split("(?<=\\.) "));
            if (head.equals("What it is")) {
                parts.put(head, all.subList(1, all.size()));
            } else if (head.equals("Terms")) {
                parts.put(head, all);
            } else if (head.startsWith("Promise ")) {
                parts.put(head, paragraphs(body));
            }
        }
        return parts;
    }

    private static List<String> paragraphs(String body) {
        List<String> found = new ArrayList<>();
        for (String paragraph : body.split("\n\n|\n(?=- )")) {
            if (!paragraph.isBlank()) {
                found.add(plain(paragraph));
            }
        }
        return found;
    }

    private static String plain(String text) {
        return text.replaceAll("\\s+", " ").strip();
    }

    private static boolean isQuoted(Breaks.Break b, Map<String, List<String>> document) {
        return document.containsKey(b.part()) && String.join(" ", document.get(b.part())).contains(b.quote());
    }

    /** A quote may lead on into the next sentence, to tell which of several it means. */
    private static boolean breaks(Breaks.Break b, String part, String sentence) {
        return b.part().equals(part) && sentence.contains(b.quote().split("(?<=\\.) ")[0]);
    }

    // ---- the breaks

    private static void tryAll(List<Breaks.Break> breaks, String source) throws Exception {
        PrintStream out = System.out;
        System.setOut(new PrintStream(OutputStream.nullOutputStream()));
        ExecutorService workers = Executors.newFixedThreadPool(Runtime.getRuntime().availableProcessors(),
            BreaksTest::worker);
        List<Future<String>> failing = new ArrayList<>();
        for (Breaks.Break b : breaks) {
            failing.add(workers.submit(() -> failingTest(b, source)));
        }
        List<String> names = new ArrayList<>();
        for (Future<String> name : failing) {
            names.add(awaited(name));
        }
        System.setOut(out);
        for (int i = 0; i < breaks.size(); i++) {
            String name = names.get(i);
            Checks.due("line " + breaks.get(i).line() + " fails in", String.valueOf(breaks.get(i).test()), () -> name);
        }
    }

    /** One that does not hold up the end, should a break never end. */
    private static Thread worker(Runnable work) {
        Thread worker = new Thread(work);
        worker.setDaemon(true);
        return worker;
    }

    private static String awaited(Future<String> name) throws Exception {
        try {
            return name.get(60, TimeUnit.SECONDS);
        } catch (TimeoutException e) {
            return "a test that does not end";
        }
    }

    /** The test that the break names if it fails, else the first one that does. */
    private static String failingTest(Breaks.Break b, String source) throws Exception {
        Map<String, byte[]> classes = Compiled.classes(Breaks.broken(source, b));
        if (classes == null) {
            return "the compiler";
        }
        List<String> tests = new ArrayList<>(TESTS);
        if (tests.remove(b.test())) {
            tests.add(0, b.test());
        }
        for (String test : tests) {
            if (fails(test, classes)) {
                return test;
            }
        }
        return "no test";
    }

    private static boolean fails(String test, Map<String, byte[]> classes) throws Exception {
        try {
            Class<?> loaded = Compiled.with(classes).loadClass(test);
            loaded.getMethod("main", String[].class).invoke(null, (Object) new String[0]);
            return false;
        } catch (InvocationTargetException e) {
            return true;
        }
    }
}
