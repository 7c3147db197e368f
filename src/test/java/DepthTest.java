import com.sun.source.tree.CompilationUnitTree;
import com.sun.source.tree.MethodInvocationTree;
import com.sun.source.tree.MethodTree;
import com.sun.source.tree.NewClassTree;
import com.sun.source.tree.Tree;
import com.sun.source.util.JavacTask;
import com.sun.source.util.TreePath;
import com.sun.source.util.TreePathScanner;
import com.sun.source.util.Trees;
import java.nio.file.Path;
import java.util.ArrayList;
import java.util.LinkedHashMap;
import java.util.LinkedHashSet;
import java.util.List;
import java.util.Map;
import java.util.Set;
import javax.lang.model.element.Element;
import javax.tools.JavaCompiler;
import javax.tools.StandardJavaFileManager;
import javax.tools.ToolProvider;

/**
 * Rules 8 and 11 of LANGUAGE.md: how deep calls go, as the compiler itself understands who calls whom.
 * What a field's first value calls is not followed: it is new Room(), Post() and the like, three deep.
 */
public final class DepthTest {
    private static final int MOST_DEEP = 8;

    private final Map<Element, Set<Element>> calls = new LinkedHashMap<>();
    private final Map<Element, List<Element>> deepest = new LinkedHashMap<>();
    private final Set<Element> open = new LinkedHashSet<>();
    private boolean goesRound = false;

    public static void main(String[] args) throws Exception {
        DepthTest test = new DepthTest();
        test.read(Path.of("src/main/java/RoomWatch.java"));
        Due due = new Due("DepthTest");
        due.is("methods and constructors are found", 1, test.calls.size() > 47 ? 1 : 0);
        for (Element each : test.calls.keySet()) {
            List<Element> row = test.rowFrom(each);
            due.is("calls that stand open at once, " + row + ": " + row.size() + " are few", 1, row.size() <= MOST_DEEP ? 1 : 0);
        }
        due.is("a method calls itself", 0, test.goesRound ? 1 : 0);
        due.end();
    }

    private void read(Path source) throws Exception {
        JavaCompiler compiler = ToolProvider.getSystemJavaCompiler();
        try (StandardJavaFileManager files = compiler.getStandardFileManager(null, null, null)) {
            JavacTask task = (JavacTask) compiler.getTask(null, files, null, List.of("-proc:none"), null, files.getJavaFileObjects(source));
            Trees trees = Trees.instance(task);
            Iterable<? extends CompilationUnitTree> units = task.parse();
            task.analyze();
            for (CompilationUnitTree unit : units) new Scan(trees).scan(unit, null);
        }
    }

    /** The longest row of calls, the library's own first call counted, its inner ones not. */
    private List<Element> rowFrom(Element method) {
        if (deepest.containsKey(method)) return deepest.get(method);
        if (!open.add(method)) {
            goesRound = true;
            return List.of();
        }
        List<Element> longest = List.of();
        for (Element called : calls.getOrDefault(method, Set.of())) {
            List<Element> row = rowFrom(called);
            if (row.size() > longest.size()) longest = row;
        }
        open.remove(method);
        List<Element> whole = new ArrayList<>(List.of(method));
        whole.addAll(longest);
        deepest.put(method, whole);
        return whole;
    }

    private final class Scan extends TreePathScanner<Void, Void> {
        private final Trees trees;
        private Element inside;

        Scan(Trees trees) {
            this.trees = trees;
        }

        @Override
        public Void visitMethod(MethodTree node, Void none) {
            Element outer = inside;
            inside = trees.getElement(getCurrentPath());
            calls.putIfAbsent(inside, new LinkedHashSet<>());
            super.visitMethod(node, none);
            inside = outer;
            return null;
        }

        @Override
        public Void visitMethodInvocation(MethodInvocationTree node, Void none) {
            note(node.getMethodSelect());
            return super.visitMethodInvocation(node, none);
        }

        @Override
        public Void visitNewClass(NewClassTree node, Void none) {
            note(node);
            return super.visitNewClass(node, none);
        }

        private void note(Tree called) {
            Element element = trees.getElement(new TreePath(getCurrentPath(), called));
            if (inside != null && element != null) calls.get(inside).add(element);
        }
    }
}
