import com.sun.source.tree.ClassTree;
import com.sun.source.tree.CompilationUnitTree;
import com.sun.source.tree.MethodInvocationTree;
import com.sun.source.tree.MethodTree;
import com.sun.source.tree.NewClassTree;
import com.sun.source.tree.Tree;
import com.sun.source.util.JavacTask;
import com.sun.source.util.TreePath;
import com.sun.source.util.TreePathScanner;
import com.sun.source.util.Trees;
import java.io.IOException;
import java.nio.file.Path;
import java.util.List;
import java.util.Map;
import java.util.Set;
import java.util.TreeMap;
import java.util.TreeSet;
import javax.lang.model.element.Element;
import javax.tools.JavaCompiler;
import javax.tools.StandardJavaFileManager;
import javax.tools.ToolProvider;

/** The rules of LANGUAGE.md on calls: which library they use, and how deep they go. */
public final class LanguageCallTests {
    private static final Path SOURCE = Path.of("src/main/java/AlertEngine.java");
    private static final Set<String> LIBRARY = Set.of("System.arraycopy", "Math.max", "Math.min", "Long.bitCount", "Long.numberOfTrailingZeros");
    private static final int MOST_DEEP = 8;

    /** For each method and constructor of the file the ones that it calls. */
    private final Map<String, Set<String>> calls = new TreeMap<>();
    private final Set<String> outside = new TreeSet<>();

    private LanguageCallTests() {
    }

    public static void main(String[] args) throws IOException {
        LanguageCallTests test = new LanguageCallTests();
        test.read();
        Check.same("methods were found", test.calls.size() > 100, true);
        Check.same("the library", test.outside, new TreeSet<>(LIBRARY));
        int deepest = 0;
        for (String method : test.calls.keySet()) deepest = Math.max(deepest, test.depth(method, new TreeSet<>()));
        Check.same("the deepest calls, " + deepest + ", are not too deep", deepest <= MOST_DEEP, true);
        Check.end("LanguageCallTests");
    }

    private void read() throws IOException {
        JavaCompiler compiler = ToolProvider.getSystemJavaCompiler();
        try (StandardJavaFileManager files = compiler.getStandardFileManager(null, null, null)) {
            JavacTask task = (JavacTask) compiler.getTask(null, files, null, List.of("-proc:none"), null, files.getJavaFileObjects(SOURCE));
            Trees trees = Trees.instance(task);
            Iterable<? extends CompilationUnitTree> units = task.parse();
            task.analyze();
            for (CompilationUnitTree unit : units) new Calls(trees).scan(unit, null);
        }
    }

    private final class Calls extends TreePathScanner<Void, Void> {
        private final Trees trees;

        Calls(Trees trees) {
            this.trees = trees;
        }

        @Override
        public Void visitMethod(MethodTree tree, Void nothing) {
            calls.putIfAbsent(name(getCurrentPath()), new TreeSet<>());
            return super.visitMethod(tree, nothing);
        }

        @Override
        public Void visitMethodInvocation(MethodInvocationTree tree, Void nothing) {
            take();
            return super.visitMethodInvocation(tree, nothing);
        }

        @Override
        public Void visitNewClass(NewClassTree tree, Void nothing) {
            take();
            return super.visitNewClass(tree, nothing);
        }

        private void take() {
            Element called = trees.getElement(getCurrentPath());
            String owner = called.getEnclosingElement().toString();
            if (owner.equals("java.lang.Object")) return;
            if (!owner.startsWith("AlertEngine")) outside.add(called.getEnclosingElement().getSimpleName() + "." + called.getSimpleName());
            else calls.computeIfAbsent(caller(), k -> new TreeSet<>()).add(owner + "." + called);
        }

        private String name(TreePath path) {
            Element method = trees.getElement(path);
            return method.getEnclosingElement() + "." + method;
        }

        /** The method around a call; a call in a field's value is one of the constructor. */
        private String caller() {
            for (TreePath path = getCurrentPath(); path != null; path = path.getParentPath()) {
                if (path.getLeaf().getKind() == Tree.Kind.METHOD) return name(path);
                if (path.getLeaf() instanceof ClassTree) return trees.getElement(path) + "." + trees.getElement(path).getSimpleName() + "()";
            }
            return "";
        }
    }

    /** How many calls stand open at most in a method, its own one counted; a recursion is a fault. */
    private int depth(String method, Set<String> open) {
        if (!open.add(method)) {
            Check.fail("a recursion through " + method);
            return 0;
        }
        int deepest = 0;
        for (String called : calls.getOrDefault(method, Set.of())) deepest = Math.max(deepest, depth(called, open));
        open.remove(method);
        return deepest + 1;
    }
}
