import com.sun.source.tree.ClassTree;
import com.sun.source.tree.CompilationUnitTree;
import com.sun.source.tree.ForLoopTree;
import com.sun.source.tree.ImportTree;
import com.sun.source.tree.LambdaExpressionTree;
import com.sun.source.tree.LineMap;
import com.sun.source.tree.LiteralTree;
import com.sun.source.tree.MemberReferenceTree;
import com.sun.source.tree.MethodInvocationTree;
import com.sun.source.tree.MethodTree;
import com.sun.source.tree.NewArrayTree;
import com.sun.source.tree.NewClassTree;
import com.sun.source.tree.ThrowTree;
import com.sun.source.tree.Tree;
import com.sun.source.tree.TryTree;
import com.sun.source.tree.VariableTree;
import com.sun.source.tree.WhileLoopTree;
import com.sun.source.util.JavacTask;
import com.sun.source.util.SourcePositions;
import com.sun.source.util.TreeScanner;
import com.sun.source.util.Trees;
import java.io.File;
import java.nio.charset.StandardCharsets;
import java.nio.file.Files;
import java.util.List;
import java.util.Set;
import java.util.TreeSet;
import javax.lang.model.element.Modifier;
import javax.tools.JavaCompiler;
import javax.tools.StandardJavaFileManager;
import javax.tools.ToolProvider;

/** What of ../shared/LANGUAGE.md can be seen from the program's tree: its library, its sizes, what it does without. */
final class LanguageTests extends TreeScanner<Void, String> {
    private static final Set<String> LIBRARY = Set.of("Math.abs", "Math.min", "Math.max", "Math.floorMod",
        "Integer.bitCount", "System.arraycopy");
    private final Set<String> owners = new TreeSet<>(Set.of("Math", "Integer", "System", "Long", "Arrays", "String"));
    private CompilationUnitTree unit;
    private SourcePositions positions;
    private int classes;

    private LanguageTests() {
    }

    static void runAll(String path) throws Exception {
        File file = new File(path);
        for (byte sign : Files.readAllBytes(file.toPath())) {
            if (sign < 0) {
                Check.due("language 3: a sign above 127", sign, 0);
            }
        }
        JavaCompiler compiler = ToolProvider.getSystemJavaCompiler();
        StandardJavaFileManager files = compiler.getStandardFileManager(null, null, StandardCharsets.US_ASCII);
        JavacTask task = (JavacTask) compiler.getTask(null, files, null, List.of("-proc:none"), null,
            files.getJavaFileObjects(file));
        LanguageTests tests = new LanguageTests();
        tests.positions = Trees.instance(task).getSourcePositions();
        for (CompilationUnitTree each : task.parse()) {
            tests.unit = each;
            tests.scan(each, "");
        }
        Check.due("language 11: some twelve classes", tests.classes <= 12, true);
    }

    private static void never(String what) {
        Check.due("language: " + what, true, false);
    }

    @Override
    public Void visitImport(ImportTree tree, String in) {
        Check.due("language 4: " + tree, tree.getQualifiedIdentifier().toString().equals("java.util.NoSuchElementException"), true);
        return null;
    }

    @Override
    public Void visitClass(ClassTree tree, String in) {
        classes++;
        int fields = 0;
        for (Tree member : tree.getMembers()) {
            if (member instanceof VariableTree) {
                Set<Modifier> modifiers = ((VariableTree) member).getModifiers().getFlags();
                fields += modifiers.contains(Modifier.STATIC) ? 0 : 1;
                boolean isLoose = modifiers.contains(Modifier.STATIC) && !modifiers.contains(Modifier.FINAL);
                Check.due("language 5: " + member, isLoose, false);
            }
        }
        Check.due("language 11: fields of " + tree.getSimpleName() + ": " + fields, fields <= 20, true);
        return super.visitClass(tree, tree.getSimpleName().toString());
    }

    @Override
    public Void visitMethod(MethodTree tree, String in) {
        LineMap lines = unit.getLineMap();
        long length = lines.getLineNumber(positions.getEndPosition(unit, tree))
            - lines.getLineNumber(positions.getStartPosition(unit, tree)) + 1;
        Check.due("language 11: lines of " + tree.getName() + ": " + length, length <= 60, true);
        Check.due("language 11: parameters of " + tree.getName(), tree.getParameters().size() <= 7, true);
        return super.visitMethod(tree, in + "." + tree.getName());
    }

    @Override
    public Void visitMethodInvocation(MethodInvocationTree tree, String in) {
        String call = tree.getMethodSelect().toString();
        int dot = call.indexOf('.');
        if (dot > 0 && owners.contains(call.substring(0, dot))) {
            Check.due("language 4: " + call + " in " + in, LIBRARY.contains(call), true);
        }
        return super.visitMethodInvocation(tree, in);
    }

    @Override
    public Void visitNewClass(NewClassTree tree, String in) {
        boolean isThrown = tree.getIdentifier().toString().equals("NoSuchElementException");
        boolean isDue = isThrown ? in.equals("SaintCarried.house") : in.endsWith(".<init>");
        Check.due("language 12: " + tree + " in " + in, isDue, true);
        return super.visitNewClass(tree, in);
    }

    @Override
    public Void visitNewArray(NewArrayTree tree, String in) {
        Check.due("language 12: " + tree + " in " + in, in.endsWith(".<init>") || tree.getInitializers() != null, true);
        return super.visitNewArray(tree, in);
    }

    @Override
    public Void visitThrow(ThrowTree tree, String in) {
        Check.due("language 6: " + tree + " in " + in, in.equals("SaintCarried.house"), true);
        return super.visitThrow(tree, in);
    }

    @Override
    public Void visitTry(TryTree tree, String in) {
        never("a try in " + in);
        return null;
    }

    @Override
    public Void visitLambdaExpression(LambdaExpressionTree tree, String in) {
        never("a lambda in " + in);
        return null;
    }

    @Override
    public Void visitMemberReference(MemberReferenceTree tree, String in) {
        never("a method reference in " + in);
        return null;
    }

    @Override
    public Void visitForLoop(ForLoopTree tree, String in) {
        Check.due("language 9: a for with an end in " + in, tree.getCondition() != null && !tree.getUpdate().isEmpty(), true);
        return super.visitForLoop(tree, in);
    }

    @Override
    public Void visitWhileLoop(WhileLoopTree tree, String in) {
        Check.due("language 9: a while in " + in, in.equals("Tape.peek"), true);
        return super.visitWhileLoop(tree, in);
    }

    @Override
    public Void visitLiteral(LiteralTree tree, String in) {
        Check.due("language 3: no texts: " + tree + " in " + in, tree.getKind() == Tree.Kind.STRING_LITERAL, false);
        return super.visitLiteral(tree, in);
    }
}
