import com.sun.source.tree.ClassTree;
import com.sun.source.tree.CompilationUnitTree;
import com.sun.source.tree.MethodInvocationTree;
import com.sun.source.tree.MethodTree;
import com.sun.source.tree.NewClassTree;
import com.sun.source.tree.Tree;
import com.sun.source.util.JavacTask;
import com.sun.source.util.TreePath;
import com.sun.source.util.TreePathScanner;
import com.sun.source.util.Trees;
import java.io.File;
import java.nio.charset.StandardCharsets;
import java.util.HashMap;
import java.util.List;
import java.util.Map;
import java.util.Set;
import java.util.TreeSet;
import javax.lang.model.element.Element;
import javax.lang.model.element.Modifier;
import javax.tools.JavaCompiler;
import javax.tools.StandardJavaFileManager;
import javax.tools.ToolProvider;

/** Rule 11 of ../shared/LANGUAGE.md: no call of the face goes more than eight calls deep; those that recur count once. */
final class DepthTests extends TreePathScanner<Void, String> {
    private static final int DEEPEST = 8;
    private final Trees trees;
    private final Map<String, Set<String>> calls = new HashMap<>();
    private final Map<String, Set<String>> reached = new HashMap<>();
    private final Map<String, Integer> depths = new HashMap<>();
    private final Set<String> face = new TreeSet<>();

    private DepthTests(Trees trees) {
        this.trees = trees;
    }

    static void runAll(String path) throws Exception {
        JavaCompiler compiler = ToolProvider.getSystemJavaCompiler();
        StandardJavaFileManager files = compiler.getStandardFileManager(null, null, StandardCharsets.US_ASCII);
        JavacTask task = (JavacTask) compiler.getTask(null, files, null, List.of("-proc:none"), null,
            files.getJavaFileObjects(new File(path)));
        DepthTests tests = new DepthTests(Trees.instance(task));
        Iterable<? extends CompilationUnitTree> units = task.parse();
        task.analyze();
        for (CompilationUnitTree unit : units) {
            tests.scan(unit, "");
        }
        for (String method : tests.calls.keySet()) {
            tests.reach(method);
        }
        Check.due("language 11: the face is seen", tests.face.size(), 43);
        for (String method : tests.face) {
            int depth = tests.depth(method);
            Check.due("language 11: " + method + " goes " + depth + " deep", depth <= DEEPEST, true);
        }
    }

    @Override
    public Void visitClass(ClassTree tree, String in) {
        return super.visitClass(tree, tree.getSimpleName().toString());
    }

    @Override
    public Void visitMethod(MethodTree tree, String in) {
        String name = nameOf(trees.getElement(getCurrentPath()));
        calls.put(name, new TreeSet<>());
        if (in.equals("SaintCarried") && tree.getModifiers().getFlags().contains(Modifier.PUBLIC)) {
            face.add(name);
        }
        return super.visitMethod(tree, name);
    }

    @Override
    public Void visitMethodInvocation(MethodInvocationTree tree, String in) {
        note(tree.getMethodSelect(), in);
        return super.visitMethodInvocation(tree, in);
    }

    @Override
    public Void visitNewClass(NewClassTree tree, String in) {
        note(tree, in);
        return super.visitNewClass(tree, in);
    }

    private void note(Tree tree, String in) {
        Element called = trees.getElement(new TreePath(getCurrentPath(), tree));
        if (called != null && calls.containsKey(in)) {
            calls.get(in).add(nameOf(called));
        }
    }

    private static String nameOf(Element method) {
        return method.getEnclosingElement() + "." + method;
    }

    private void reach(String from) {
        Set<String> all = new TreeSet<>();
        List<String> next = List.copyOf(calls.get(from));
        while (!next.isEmpty()) {
            Set<String> farther = new TreeSet<>();
            for (String method : next) {
                if (calls.containsKey(method) && all.add(method)) {
                    farther.addAll(calls.get(method));
                }
            }
            next = List.copyOf(farther);
        }
        reached.put(from, all);
    }

    /** The longest way down; all that recur with one another are one step of it. */
    private int depth(String method) {
        Integer known = depths.get(method);
        if (known != null) {
            return known;
        }
        int deepest = 0;
        for (String other : calls.keySet()) {
            boolean isAlike = other.equals(method) || reached.get(method).contains(other) && reached.get(other).contains(method);
            for (String called : isAlike ? calls.get(other) : Set.<String>of()) {
                if (calls.containsKey(called) && !called.equals(method) && !reached.get(called).contains(method)) {
                    deepest = Math.max(deepest, depth(called));
                }
            }
        }
        depths.put(method, deepest + 1);
        return deepest + 1;
    }
}
