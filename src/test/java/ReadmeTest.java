import java.io.IOException;
import java.lang.reflect.InvocationTargetException;
import java.net.MalformedURLException;
import java.net.URL;
import java.net.URLClassLoader;
import java.nio.file.Files;
import java.nio.file.Path;
import java.util.Map;
import java.util.TreeMap;
import java.util.regex.Matcher;
import java.util.regex.Pattern;
import javax.tools.ToolProvider;

/** README.md's code compiles, and its calls answer what stands behind them. */
final class ReadmeTest {
    private static final Check CHECK = new Check();
    private static final Pattern BLOCK = Pattern.compile("(?s)```java\n(.*?)```");
    private static final Pattern CALL = Pattern.compile("^x\\.(.*);\\s+// (-?\\d+|NONE|true|false)(: .*)?$");

    public static void main(String[] args) throws IOException, ReflectiveOperationException {
        Path made = Files.createTempDirectory("readme");
        Path source = made.resolve("ReadmeCode.java");
        Files.writeString(source, code(Files.readString(Path.of("README.md"))));
        int wrong = ToolProvider.getSystemJavaCompiler().run(null, null, null, "-proc:none", "-d", made.toString(),
            "-cp", System.getProperty("java.class.path"), source.toString());
        CHECK.due("README.md's code compiles", wrong, 0);
        if (wrong == 0) {
            Map<String, Object[]> answers = answers(made);
            CHECK.due("README.md has calls", answers.size() > 20, true);
            answers.forEach((call, row) -> CHECK.due("README.md: " + call, number(row[0]), number(row[1])));
        }
        try (var files = Files.list(made)) {
            for (Path file : files.toList()) {
                Files.delete(file);
            }
        }
        Files.delete(made);
        CHECK.end("ReadmeTest");
    }

    private static long number(Object answer) {
        return answer instanceof Boolean truth ? (truth ? 1 : 0) : ((Number) answer).longValue();
    }

    /** Functions stand beside main, the rest in it, each call with what is due. */
    private static String code(String readme) {
        StringBuilder functions = new StringBuilder();
        StringBuilder body = new StringBuilder();
        Matcher block = BLOCK.matcher(readme);
        while (block.find()) {
            if (block.group(1).startsWith("static ")) {
                functions.append(block.group(1));
            } else {
                block.group(1).lines().forEach(line -> body.append(asked(line)).append('\n'));
            }
        }
        return "public class ReadmeCode {\nstatic final int NONE = TalkChutes.NONE;\n" + functions
            + "public static void answers(java.util.Map<String, Object[]> to) {\n" + body + "}\n}\n";
    }

    private static String asked(String line) {
        Matcher call = CALL.matcher(line);
        if (!call.matches()) {
            return line;
        }
        String words = call.group(1).replace("\"", "'");
        return "to.put(to.size() + \" " + words + "\", new Object[] {x." + call.group(1) + ", " + call.group(2) + "});";
    }

    private static Map<String, Object[]> answers(Path made) throws MalformedURLException, IOException, ReflectiveOperationException {
        Map<String, Object[]> answers = new TreeMap<>();
        try (URLClassLoader loader = new URLClassLoader(new URL[] {made.toUri().toURL()})) {
            loader.loadClass("ReadmeCode").getMethod("answers", Map.class).invoke(null, answers);
        } catch (InvocationTargetException e) {
            CHECK.due("README.md's code threw " + e.getCause(), 1, 0);
        }
        return answers;
    }
}
