import com.sun.source.tree.ClassTree;
import com.sun.source.tree.CompilationUnitTree;
import com.sun.source.tree.MethodInvocationTree;
import com.sun.source.tree.MethodTree;
import com.sun.source.tree.NewClassTree;
import com.sun.source.tree.Tree;
import com.sun.source.tree.VariableTree;
import com.sun.source.util.JavacTask;
import com.sun.source.util.TreePathScanner;
import com.sun.source.util.Trees;
import java.io.IOException;
import java.nio.file.Path;
import java.util.ArrayList;
import java.util.HashMap;
import java.util.LinkedHashMap;
import java.util.LinkedHashSet;
import java.util.List;
import java.util.Map;
import java.util.Set;
import javax.lang.model.element.Element;
import javax.lang.model.element.Modifier;
import javax.tools.JavaCompiler;
import javax.tools.StandardJavaFileManager;
import javax.tools.ToolProvider;

/** LANGUAGE.md, rules 8 and 11, as the compiler sees the source: how deep calls go, how much a class holds. */
final class DepthTest {
    private static final Path SOURCE = Path.of("src/main/java/CashDeriver.java");
    private static final int MOST_DEEP = 8;
    private static final int MOST_FIELDS = 20;
    private static final int LEAST_METHODS = 100;

    public static void main(String[] args) throws IOException {
        JavaCompiler compiler = ToolProvider.getSystemJavaCompiler();
        try (StandardJavaFileManager files = compiler.getStandardFileManager(null, null, null)) {
            JavacTask task = (JavacTask) compiler.getTask(null, files, null, List.of("-proc:none"), null, files.getJavaFileObjects(SOURCE));
            Iterable<? extends CompilationUnitTree> units = task.parse();
            // which method a call means is known only behind this
            task.analyze();
            Calls calls = new Calls(Trees.instance(task));
            calls.scan(units, null);
            checkDepth(calls.called);
        }
        Checks.finish();
    }

    /** By method of the source, or constructor: those of the source that it calls. */
    private static final class Calls extends TreePathScanner<Void, Void> {
        private final Trees trees;
        private final Map<Element, Set<Element>> called = new LinkedHashMap<>();
        private Element caller = null;

        Calls(Trees trees) {
            this.trees = trees;
        }

        @Override
        public Void visitClass(ClassTree tree, Void unused) {
            int fields = 0;
            for (Tree member : tree.getMembers()) {
                boolean own = member instanceof VariableTree field && !field.getModifiers().getFlags().contains(Modifier.STATIC);
                fields += own ? 1 : 0;
            }
            Checks.due("fields of " + tree.getSimpleName() + ", twenty at most", fields <= MOST_FIELDS, true);
            return super.visitClass(tree, unused);
        }

        @Override
        public Void visitMethod(MethodTree tree, Void unused) {
            Element outer = caller;
            caller = trees.getElement(getCurrentPath());
            called.putIfAbsent(caller, new LinkedHashSet<>());
            super.visitMethod(tree, unused);
            caller = outer;
            return null;
        }

        @Override
        public Void visitMethodInvocation(MethodInvocationTree tree, Void unused) {
            note();
            return super.visitMethodInvocation(tree, unused);
        }

        @Override
        public Void visitNewClass(NewClassTree tree, Void unused) {
            note();
            return super.visitNewClass(tree, unused);
        }

        private void note() {
            if (caller != null) {
                called.get(caller).add(trees.getElement(getCurrentPath()));
            }
        }
    }

    private static void checkDepth(Map<Element, Set<Element>> called) {
        Checks.due("methods are seen", called.size() >= LEAST_METHODS, true);
        Map<Element, List<Element>> known = new HashMap<>();
        List<Element> deepest = new ArrayList<>();
        for (Element method : called.keySet()) {
            List<Element> chain = deepestFrom(method, called, known, new ArrayList<>());
            Checks.due("as deep as it may go, or less: " + chain, chain.size() <= MOST_DEEP, true);
            deepest = chain.size() > deepest.size() ? chain : deepest;
        }
        System.out.println("deepest: " + deepest);
    }

    /** The longest chain of methods of the source that begins with this one. */
    private static List<Element> deepestFrom(Element method, Map<Element, Set<Element>> called,
            Map<Element, List<Element>> known, List<Element> open) {
        if (open.contains(method)) {
            Checks.complain("it calls itself: " + open);
            return List.of();
        }
        if (!known.containsKey(method)) {
            open.add(method);
            List<Element> longest = List.of();
            for (Element next : called.get(method)) {
                List<Element> chain = called.containsKey(next) ? deepestFrom(next, called, known, open) : List.of();
                longest = chain.size() > longest.size() ? chain : longest;
            }
            open.remove(method);
            List<Element> whole = new ArrayList<>(List.of(method));
            whole.addAll(longest);
            known.put(method, whole);
        }
        return known.get(method);
    }
}
