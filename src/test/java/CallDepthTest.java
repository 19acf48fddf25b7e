import com.sun.source.tree.ClassTree;
import com.sun.source.tree.CompilationUnitTree;
import com.sun.source.tree.MethodInvocationTree;
import com.sun.source.tree.MethodTree;
import com.sun.source.tree.NewClassTree;
import com.sun.source.util.JavacTask;
import com.sun.source.util.TreePathScanner;
import com.sun.source.util.Trees;
import java.io.IOException;
import java.nio.file.Path;
import java.util.ArrayList;
import java.util.HashSet;
import java.util.LinkedHashMap;
import java.util.LinkedHashSet;
import java.util.List;
import java.util.Map;
import java.util.Set;
import javax.lang.model.element.Element;
import javax.lang.model.element.ElementKind;
import javax.lang.model.element.Modifier;
import javax.tools.JavaCompiler;
import javax.tools.StandardJavaFileManager;
import javax.tools.ToolProvider;

/** LANGUAGE.md on calls: at most eight deep but for recursion, which only the tests of a RULE have, and names. */
public final class CallDepthTest {
    private static final Checks CHECKS = new Checks();
    private static final int MOST_DEEP = 8;
    private static final Path SOURCE = Path.of("src/main/java/PondIceTrade.java");
    private static final Map<Element, Set<Element>> CALLS = new LinkedHashMap<>();
    private static final Set<String> RECURSIVE = new LinkedHashSet<>();
    private static List<String> longest = new ArrayList<>();

    public static void main(String[] args) throws IOException {
        readCalls();
        for (Element method : CALLS.keySet()) {
            follow(method, new ArrayList<>(), new HashSet<>());
        }
        CHECKS.due("calls " + longest + " are eight deep at most", longest.size() <= MOST_DEEP ? 1 : 0, 1);
        CHECKS.due("calls were seen", longest.size() > 3 ? 1 : 0, 1);
        CHECKS.due("recursion " + RECURSIVE, RECURSIVE.equals(Set.of("readTest", "readFact")) ? 1 : 0, 1);
        names();
        CHECKS.close();
    }

    private static void readCalls() throws IOException {
        JavaCompiler compiler = ToolProvider.getSystemJavaCompiler();
        try (StandardJavaFileManager files = compiler.getStandardFileManager(null, null, null)) {
            JavacTask task = (JavacTask) compiler.getTask(null, files, null, List.of("-proc:none"), null,
                    files.getJavaFileObjects(SOURCE));
            Iterable<? extends CompilationUnitTree> units = task.parse();
            task.analyze();
            for (CompilationUnitTree unit : units) {
                new Reader(Trees.instance(task)).scan(unit, null);
            }
        }
    }

    private static void follow(Element method, List<String> above, Set<Element> open) {
        if (!CALLS.containsKey(method)) {
            return;
        }
        if (!open.add(method)) {
            int from = above.lastIndexOf(method.getSimpleName().toString());
            RECURSIVE.addAll(above.subList(Math.max(from, 0), above.size()));
            return;
        }
        above.add(method.getSimpleName().toString());
        if (above.size() > longest.size()) {
            longest = new ArrayList<>(above);
        }
        for (Element called : CALLS.get(method)) {
            follow(called, above, open);
        }
        above.remove(above.size() - 1);
        open.remove(method);
    }

    /** A private method of any class inside must not bear the name of a public one. */
    private static void names() {
        Set<String> open = new HashSet<>();
        for (Element method : CALLS.keySet()) {
            if (method.getKind() == ElementKind.METHOD && method.getModifiers().contains(Modifier.PUBLIC)) {
                open.add(method.getSimpleName().toString());
            }
        }
        CHECKS.due("public methods", open.size(), 32);
        for (Element method : CALLS.keySet()) {
            boolean isPrivate = method.getModifiers().contains(Modifier.PRIVATE);
            boolean clashes = isPrivate && open.contains(method.getSimpleName().toString());
            CHECKS.due("private " + method + " bears the name of a public one", clashes ? 1 : 0, 0);
        }
    }

    /** Which methods and constructors of the file call which. */
    private static final class Reader extends TreePathScanner<Void, Void> {
        private final Trees trees;
        private Element caller;

        Reader(Trees trees) {
            this.trees = trees;
        }

        @Override
        public Void visitClass(ClassTree tree, Void unused) {
            Element before = caller;
            caller = null;
            super.visitClass(tree, null);
            caller = before;
            return null;
        }

        @Override
        public Void visitMethod(MethodTree tree, Void unused) {
            Element before = caller;
            caller = trees.getElement(getCurrentPath());
            CALLS.computeIfAbsent(caller, key -> new LinkedHashSet<>());
            super.visitMethod(tree, null);
            caller = before;
            return null;
        }

        @Override
        public Void visitMethodInvocation(MethodInvocationTree tree, Void unused) {
            addCall();
            return super.visitMethodInvocation(tree, null);
        }

        @Override
        public Void visitNewClass(NewClassTree tree, Void unused) {
            addCall();
            return super.visitNewClass(tree, null);
        }

        private void addCall() {
            Element called = trees.getElement(getCurrentPath());
            if (caller != null && called != null) {
                CALLS.get(caller).add(called);
            }
        }
    }
}
