import java.io.IOException;
import java.nio.file.DirectoryStream;
import java.nio.file.Files;
import java.nio.file.Path;
import java.util.ArrayList;
import java.util.List;
import java.util.TreeMap;
import java.util.TreeSet;
import java.util.regex.Matcher;
import java.util.regex.Pattern;

/**
 * Promises 1 to 34: one test for each sentence of the document that names a boundary case.
 *
 * <p>The tests stand in src/test/boundaries; README.md says how they are written. Each has its
 * promise's number and the words it is about beside it; those words must stand in the document, so
 * that a test cannot outlive the sentence that it is for.
 */
public final class BoundariesTest {
    private static final Pattern HEAD = Pattern.compile("promise (\\d+): \"([^\"]+)\" \\| (.+)");
    private static final int MOST_CALLS = 512;

    public static void main(String[] args) throws IOException {
        Path home = Path.of(args.length > 0 ? args[0] : ".");
        Check check = new Check();
        TreeMap<Integer, String> document = document(home.resolve("../shared/DOC.md"));
        TreeSet<Integer> tested = new TreeSet<>();
        int tests = 0;
        for (Path file : files(home.resolve("src/test/boundaries"))) {
            tests += run(check, file, document, tested);
        }
        for (int promise = 1; promise <= 34; promise++) {
            check.due("promise " + promise + " has a test", tested.contains(promise) ? 1 : 0, 1);
        }
        System.out.println(tests + " boundaries");
        check.end("BoundariesTest");
    }

    private static List<Path> files(Path folder) throws IOException {
        List<Path> files = new ArrayList<>();
        try (DirectoryStream<Path> found = Files.newDirectoryStream(folder, "*.txt")) {
            found.forEach(files::add);
        }
        files.sort(null);
        return files;
    }

    /** What the document says with a promise: its own words under its number, all the others under 0. */
    private static TreeMap<Integer, String> document(Path path) throws IOException {
        TreeMap<Integer, String> document = new TreeMap<>();
        int promise = 0;
        for (String line : Files.readAllLines(path)) {
            if (line.startsWith("## ")) {
                Matcher head = Pattern.compile("## Promise (\\d+):.*").matcher(line);
                promise = head.matches() ? Integer.parseInt(head.group(1)) : 0;
            }
            document.merge(promise, line, (a, b) -> a + " " + b);
        }
        return document;
    }

    private static int run(Check check, Path file, TreeMap<Integer, String> document, TreeSet<Integer> tested)
            throws IOException {
        List<String> lines = Files.readAllLines(file);
        CalledBook book = null;
        String title = file.toString();
        int tests = 0;
        for (int at = 0; at < lines.size(); at++) {
            String line = lines.get(at).strip();
            Matcher head = HEAD.matcher(line);
            if (head.matches()) {
                end(check, title, book);
                int promise = Integer.parseInt(head.group(1));
                title = file.getFileName() + ":" + (at + 1) + " " + line;
                boolean stands = document.getOrDefault(promise, "").contains(head.group(2))
                    || document.getOrDefault(0, "").contains(head.group(2));
                check.due(title + ": the words stand in the document", stands ? 1 : 0, 1);
                book = new CalledBook(check, title);
                tested.add(promise);
                tests++;
            } else if (!line.isEmpty() && !line.startsWith("#")) {
                check.due(title + ": a test that '" + line + "' belongs to", book == null ? 0 : 1, 1);
                if (book != null) {
                    book.step(line);
                }
            }
        }
        end(check, title, book);
        return tests;
    }

    private static void end(Check check, String title, CalledBook book) {
        if (book != null) {
            check.due(title + ": asks for something", book.asked() > 0 ? 1 : 0, 1);
            check.due(title + ": keeps to 512 calls", book.calls() <= MOST_CALLS ? 1 : 0, 1);
        }
    }
}
