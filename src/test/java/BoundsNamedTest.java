import java.io.IOException;
import java.nio.file.DirectoryStream;
import java.nio.file.Files;
import java.nio.file.Path;
import java.util.regex.Matcher;
import java.util.regex.Pattern;

/** Each promise of the document has boundary tests that name its number, and each STATUS it tells is among them. */
final class BoundsNamedTest {
    private static final Check CHECK = new Check();
    private static final int PROMISES = 53;
    private static final Path DOCUMENT = Path.of("../shared/DOC.md");

    public static void main(String[] args) throws IOException {
        String tests = testsOfBounds();
        String document = Files.readString(DOCUMENT);
        int found = 0;
        Matcher m = Pattern.compile("(?m)^## Promise (\\d+): .*\\n\\n(.*)$").matcher(document);
        while (m.find()) {
            found++;
            int number = Integer.parseInt(m.group(1));
            CHECK.due("promise " + number + " is tested", tests.contains("promise(" + number + ", "), true);
            statusesAreNamed(tests, number, m.group(2));
        }
        CHECK.due("promises in the document", found, PROMISES);
        CHECK.end("BoundsNamedTest");
    }

    private static String testsOfBounds() throws IOException {
        StringBuilder all = new StringBuilder();
        try (DirectoryStream<Path> files = Files.newDirectoryStream(Path.of("src/test/java"), "Bounds*Test.java")) {
            for (Path file : files) {
                all.append(Files.readString(file));
            }
        }
        return all.toString();
    }

    /** The document tells them at the end: (2; 5: HEIGHT 0). */
    private static void statusesAreNamed(String tests, int number, String sentence) {
        Matcher last = Pattern.compile("\\(([^()]*(?:\\([^()]*\\)[^()]*)*)\\)\\.?$").matcher(sentence);
        if (!last.find() || !Character.isDigit(last.group(1).charAt(0))) {
            return;
        }
        for (String one : last.group(1).split("; ")) {
            Matcher digits = Pattern.compile("^\\d+").matcher(one);
            if (digits.find()) {
                Pattern named = Pattern.compile("promise\\(" + number + ", \"[^\"]*\\b" + digits.group() + "\\b");
                CHECK.due("promise " + number + ", STATUS " + digits.group() + " is named", named.matcher(tests).find(), true);
            }
        }
    }
}
