import com.sun.source.tree.ClassTree;
import com.sun.source.tree.CompilationUnitTree;
import com.sun.source.tree.MethodInvocationTree;
import com.sun.source.tree.MethodTree;
import com.sun.source.tree.NewArrayTree;
import com.sun.source.tree.NewClassTree;
import com.sun.source.util.JavacTask;
import com.sun.source.util.TreePathScanner;
import com.sun.source.util.Trees;
import java.io.IOException;
import java.nio.file.Path;
import java.util.ArrayDeque;
import java.util.Deque;
import java.util.List;
import java.util.Map;
import java.util.Set;
import java.util.TreeMap;
import java.util.TreeSet;
import javax.lang.model.element.Element;
import javax.lang.model.element.Modifier;
import javax.tools.JavaCompiler;
import javax.tools.StandardJavaFileManager;
import javax.tools.ToolProvider;

/** The rules of LANGUAGE.md about which calls the class makes: the library (4), recursion (8), how deep (11), what is made (12). */
final class FormTest extends TreePathScanner<Void, Void> {
    private static final Check CHECK = new Check();
    private static final Path SOURCE = Path.of("src/main/java/TalkChutes.java");
    private static final int DEEPEST = 8;
    /** What the rules allow is more; what the class uses of it is this. */
    private static final Set<String> LIBRARY = Set.of("String.length", "String.charAt", "Integer.bitCount",
        "Math.max", "Math.min", "Math.abs", "System.arraycopy");
    private static final Set<String> RECURSIVE = Set.of("Feuds.putOnTopic", "Feuds.putOnSeat", "Ways.mostWorthFrom");

    private final Trees trees;
    private final Map<String, Set<String>> calls = new TreeMap<>();
    private final Set<String> face = new TreeSet<>();
    private final Set<String> library = new TreeSet<>();
    private final Set<String> makers = new TreeSet<>();
    private String within = "";

    private FormTest(Trees trees) {
        this.trees = trees;
    }

    public static void main(String[] args) throws IOException {
        FormTest form = scanned();
        CHECK.due("the face's methods", form.face.size(), 52);
        for (String used : form.library) {
            CHECK.due("rule 4: " + used + " is of the library's list", LIBRARY.contains(used), true);
        }
        for (String maker : form.makers) {
            CHECK.due("rule 12: " + maker + ", which makes something, is a constructor", maker.endsWith(".<init>"), true);
        }
        for (String method : form.calls.keySet()) {
            boolean comesBack = form.reaches(method).contains(method);
            CHECK.due("rule 8: " + method + " calls itself", comesBack, RECURSIVE.contains(method));
        }
        for (String method : form.face) {
            int deep = form.depth(method, new ArrayDeque<>());
            CHECK.due("rule 11: " + method + " goes " + deep + " deep", deep <= DEEPEST, true);
        }
        CHECK.end("FormTest");
    }

    private static FormTest scanned() throws IOException {
        JavaCompiler compiler = ToolProvider.getSystemJavaCompiler();
        try (StandardJavaFileManager files = compiler.getStandardFileManager(null, null, null)) {
            JavacTask task = (JavacTask) compiler.getTask(null, files, null, List.of("-proc:none"), null, files.getJavaFileObjects(SOURCE));
            Iterable<? extends CompilationUnitTree> units = task.parse();
            task.analyze();
            FormTest form = new FormTest(Trees.instance(task));
            form.scan(units, null);
            return form;
        }
    }

    private static String nameOf(Element method) {
        return method.getEnclosingElement().getSimpleName() + "." + method.getSimpleName();
    }

    @Override
    public Void visitClass(ClassTree tree, Void none) {
        String outer = within;
        // What stands in no method is done as the object is made.
        within = tree.getSimpleName() + ".<init>";
        super.visitClass(tree, none);
        within = outer;
        return null;
    }

    @Override
    public Void visitMethod(MethodTree tree, Void none) {
        String outer = within;
        Element method = trees.getElement(getCurrentPath());
        within = nameOf(method);
        calls.computeIfAbsent(within, k -> new TreeSet<>());
        if (method.getModifiers().contains(Modifier.PUBLIC) && !within.endsWith(".<init>")) {
            face.add(within);
        }
        super.visitMethod(tree, none);
        within = outer;
        return null;
    }

    @Override
    public Void visitMethodInvocation(MethodInvocationTree tree, Void none) {
        Element called = trees.getElement(getCurrentPath());
        String name = nameOf(called);
        calls.computeIfAbsent(within, k -> new TreeSet<>()).add(name);
        boolean isLibrary = called.getEnclosingElement().toString().startsWith("java.");
        if (isLibrary && !name.endsWith(".<init>")) {
            library.add(name);
        }
        return super.visitMethodInvocation(tree, none);
    }

    @Override
    public Void visitNewClass(NewClassTree tree, Void none) {
        makers.add(within);
        return super.visitNewClass(tree, none);
    }

    @Override
    public Void visitNewArray(NewArrayTree tree, Void none) {
        makers.add(within);
        return super.visitNewArray(tree, none);
    }

    private Set<String> calledBy(String method) {
        return calls.getOrDefault(method, Set.of());
    }

    private Set<String> reaches(String method) {
        Set<String> reached = new TreeSet<>();
        Deque<String> open = new ArrayDeque<>(calledBy(method));
        while (!open.isEmpty()) {
            String next = open.pop();
            if (reached.add(next)) {
                open.addAll(calledBy(next));
            }
        }
        return reached;
    }

    /** How many calls stand open at once, the library's own too; a method that calls itself counts once. */
    private int depth(String method, Deque<String> open) {
        if (open.contains(method)) {
            return 0;
        }
        open.push(method);
        int deepest = 0;
        for (String called : calledBy(method)) {
            deepest = Math.max(deepest, depth(called, open));
        }
        open.pop();
        return deepest + 1;
    }
}
