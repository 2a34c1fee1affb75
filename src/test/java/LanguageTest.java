import java.io.IOException;
import java.lang.reflect.Constructor;
import java.lang.reflect.Field;
import java.lang.reflect.Method;
import java.lang.reflect.Modifier;
import java.nio.charset.StandardCharsets;
import java.nio.file.Files;
import java.nio.file.Path;
import java.util.Set;
import java.util.TreeSet;
import java.util.regex.Matcher;
import java.util.regex.Pattern;

/** The rules of LANGUAGE.md that can be seen in the text and the shape of the class. */
final class LanguageTest {
    private static final Check CHECK = new Check();
    private static final Path SOURCE = Path.of("src/main/java/TalkChutes.java");
    private static final Path DOCUMENT = Path.of("../shared/DOC.md");

    public static void main(String[] args) throws IOException {
        theFaceIsTheDocuments();
        nothingElseIsSeen();
        noPrivateMethodHasAPublicName();
        wordsThatAreNotUsed();
        methodsAreShort();
        CHECK.end("LanguageTest");
    }

    private static String face(Method m) {
        StringBuilder row = new StringBuilder(m.getReturnType().getSimpleName()).append(' ').append(m.getName()).append('(');
        for (Class<?> type : m.getParameterTypes()) {
            row.append(type.getSimpleName()).append(' ');
        }
        return row.append(')').toString();
    }

    private static void theFaceIsTheDocuments() throws IOException {
        Set<String> due = new TreeSet<>();
        Matcher m = Pattern.compile("(?m)^    public (\\w+) (\\w+)\\((.*)\\);$").matcher(Files.readString(DOCUMENT));
        while (m.find()) {
            StringBuilder row = new StringBuilder(m.group(1)).append(' ').append(m.group(2)).append('(');
            for (String parameter : m.group(3).split(", ")) {
                row.append(parameter.isEmpty() ? "" : parameter.split(" ")[0] + " ");
            }
            due.add(row.append(')').toString());
        }
        Set<String> got = new TreeSet<>();
        for (Method method : TalkChutes.class.getDeclaredMethods()) {
            if (!Modifier.isPrivate(method.getModifiers())) {
                got.add(face(method));
            }
        }
        CHECK.due("the document's methods", due.size(), 52);
        CHECK.due("the face is " + got + ", due is " + due, got.equals(due), true);
    }

    private static void nothingElseIsSeen() {
        CHECK.due("public", Modifier.isPublic(TalkChutes.class.getModifiers()), true);
        CHECK.due("final", Modifier.isFinal(TalkChutes.class.getModifiers()), true);
        Constructor<?>[] constructors = TalkChutes.class.getDeclaredConstructors();
        CHECK.due("one constructor", constructors.length, 1);
        CHECK.due("of nothing", constructors[0].getParameterCount(), 0);
        for (Field field : TalkChutes.class.getDeclaredFields()) {
            boolean constant = field.getName().equals("NONE") && Modifier.isPublic(field.getModifiers());
            CHECK.due("field " + field.getName(), constant || Modifier.isPrivate(field.getModifiers()), true);
        }
        Class<?>[] inside = TalkChutes.class.getDeclaredClasses();
        CHECK.due("at most twelve classes: " + inside.length, inside.length < 12, true);
        for (Class<?> nested : inside) {
            CHECK.due(nested.getName() + " is static", Modifier.isStatic(nested.getModifiers()), true);
            CHECK.due(nested.getName() + " is not public", Modifier.isPublic(nested.getModifiers()), false);
            fieldsAreFew(nested);
        }
        fieldsAreFew(TalkChutes.class);
    }

    private static void fieldsAreFew(Class<?> c) {
        int fields = 0;
        for (Field field : c.getDeclaredFields()) {
            boolean isStatic = Modifier.isStatic(field.getModifiers());
            CHECK.due(c.getName() + "." + field.getName() + ", static, is final", !isStatic || Modifier.isFinal(field.getModifiers()), true);
            fields += isStatic ? 0 : 1;
        }
        CHECK.due(c.getName() + " has " + fields + " fields", fields <= 20, true);
    }

    private static void noPrivateMethodHasAPublicName() {
        Set<String> names = new TreeSet<>();
        for (Method method : TalkChutes.class.getMethods()) {
            names.add(method.getName());
        }
        for (Class<?> nested : TalkChutes.class.getDeclaredClasses()) {
            for (Method method : nested.getDeclaredMethods()) {
                CHECK.due("the name " + method.getName(), names.contains(method.getName()), false);
            }
        }
        for (Method method : TalkChutes.class.getDeclaredMethods()) {
            boolean hidden = Modifier.isPrivate(method.getModifiers());
            CHECK.due("the name " + method.getName(), hidden && names.contains(method.getName()), false);
        }
    }

    private static String code() throws IOException {
        String text = Files.readString(SOURCE, StandardCharsets.UTF_8);
        return text.replaceAll("(?s)/\\*.*?\\*/", "").replaceAll("//.*", "");
    }

    private static void wordsThatAreNotUsed() throws IOException {
        CHECK.due("signs up to 127", Files.readString(SOURCE).chars().allMatch(c -> c < 128), true);
        String code = code();
        String[] banned = {"\\bthrow\\b", "\\bthrows\\b", "\\btry\\b", "\\bcatch\\b", "\\bsynchronized\\b", "\\bassert\\b", "->", "::", "\\bimport\\b",
            "\\bpackage\\b", "\\bprotected\\b", "\\bdouble\\b", "\\bfloat\\b", "Exact\\b", "\\bhashCode\\b", "\"\\s*\\+", "\\+\\s*\"", "\\bvar\\b", "\\binstanceof\\b",
            "\\bThread\\b", "\\bRandom\\b", "currentTime", "nanoTime", "static\\s*\\{", "\\bInteger\\.MAX", "\\bObject\\b"};
        for (String word : banned) {
            CHECK.due("uses " + word, Pattern.compile(word).matcher(code).find(), false);
        }
    }

    private static void methodsAreShort() throws IOException {
        String[] lines = code().split("\n", -1);
        Pattern head = Pattern.compile("^( {4}| {8})(?=\\S)(?!private static final class|private abstract)[\\w\\[\\] ]+\\(([^)]*)\\) \\{$");
        for (int i = 0; i < lines.length; i++) {
            Matcher m = head.matcher(lines[i]);
            if (!m.find() || lines[i].trim().matches("(if|for|while|switch|else).*")) {
                continue;
            }
            int end = i;
            while (end < lines.length && !lines[end].equals(m.group(1) + "}")) {
                end++;
            }
            CHECK.due(lines[i].trim() + " has " + (end - i + 1) + " lines", end - i + 1 <= 60, true);
            CHECK.due(lines[i].trim() + " parameters", m.group(2).split(",").length <= 7, true);
        }
    }
}
