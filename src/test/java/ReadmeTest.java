import java.io.IOException;
import java.nio.file.Files;
import java.nio.file.Path;
import java.util.regex.Matcher;
import java.util.regex.Pattern;

/** What README.md tells of the calls: its example is made, and no call of the face is left out. */
public final class ReadmeTest {
    private static final Pattern EXAMPLE = Pattern.compile("(?s)```java\n(.*?)```");
    private static final Pattern CALL = Pattern.compile("book\\.(\\w+\\([^)]*\\)); *// ([-\\w]+): .+");
    private static final Pattern FACE = Pattern.compile("public int (\\w+)\\(");

    public static void main(String[] args) throws IOException {
        Path home = Path.of(args.length > 0 ? args[0] : ".");
        Check check = new Check();
        String readme = Files.readString(home.resolve("README.md"));
        example(check, readme);
        callsAreNamed(check, readme, Files.readString(home.resolve("../shared/DOC.md")));
        check.end("ReadmeTest");
    }

    private static void example(Check check, String readme) {
        Matcher example = EXAMPLE.matcher(readme);
        check.due("README.md has an example", example.find() ? 1 : 0, 1);
        CalledBook book = new CalledBook(check, "README.md");
        for (String line : example.group(1).split("\n")) {
            Matcher call = CALL.matcher(line);
            if (call.matches()) {
                book.step(call.group(1) + " = " + call.group(2));
            } else {
                boolean isNoCall = line.isEmpty() || line.equals("CountBook book = new CountBook();");
                check.due("README.md has a call with its answer in '" + line + "'", isNoCall ? 1 : 0, 1);
            }
        }
        check.due("README.md's example calls something", book.calls() > 0 ? 1 : 0, 1);
    }

    private static void callsAreNamed(Check check, String readme, String document) {
        Matcher face = FACE.matcher(document);
        int named = 0;
        while (face.find()) {
            check.due("README.md names " + face.group(1), readme.contains("`" + face.group(1) + "`") ? 1 : 0, 1);
            named++;
        }
        check.due("calls of the face", named, 33);
    }
}
