import com.sun.source.tree.AnnotationTree;
import com.sun.source.tree.AssertTree;
import com.sun.source.tree.ClassTree;
import com.sun.source.tree.CompilationUnitTree;
import com.sun.source.tree.DoWhileLoopTree;
import com.sun.source.tree.EnhancedForLoopTree;
import com.sun.source.tree.ForLoopTree;
import com.sun.source.tree.LambdaExpressionTree;
import com.sun.source.tree.LineMap;
import com.sun.source.tree.MemberReferenceTree;
import com.sun.source.tree.MethodInvocationTree;
import com.sun.source.tree.MethodTree;
import com.sun.source.tree.NewArrayTree;
import com.sun.source.tree.NewClassTree;
import com.sun.source.tree.SynchronizedTree;
import com.sun.source.tree.ThrowTree;
import com.sun.source.tree.Tree;
import com.sun.source.tree.TryTree;
import com.sun.source.tree.TypeCastTree;
import com.sun.source.tree.WhileLoopTree;
import com.sun.source.util.JavacTask;
import com.sun.source.util.SourcePositions;
import com.sun.source.util.TreePath;
import com.sun.source.util.TreePathScanner;
import com.sun.source.util.Trees;
import java.nio.file.Path;
import java.util.HashMap;
import java.util.HashSet;
import java.util.List;
import java.util.Map;
import java.util.Set;
import javax.lang.model.element.Element;
import javax.lang.model.element.ElementKind;
import javax.lang.model.type.TypeKind;
import javax.lang.model.type.TypeMirror;
import javax.tools.JavaCompiler;
import javax.tools.StandardJavaFileManager;
import javax.tools.ToolProvider;

/**
 * The rules 2, 4, 6, 8, 9, 11 and 12 of ../shared/LANGUAGE.md, as far as the source shows them. Where
 * the class needs less than a rule leaves it, the test holds it to that: it throws and catches nothing,
 * has no while loop and no recursion, and makes objects with a new KinNumbers alone.
 */
public final class SourceTest extends TreePathScanner<Void, Void> {
    private static final Path SOURCE = Path.of("src/main/java/KinNumbers.java");
    private static final int MOST_LINES = 60;
    private static final int MOST_CALLS_DEEP = 8;
    private static final Set<String> LIBRARY = Set.of(
        "java.lang.Object.<init>", "java.lang.Math.max", "java.lang.Math.min", "java.lang.Math.abs",
        "java.util.Arrays.fill");
    private static final Check CHECK = new Check();

    private final Trees trees;
    private final SourcePositions positions;
    private final CompilationUnitTree unit;
    private final Map<Element, Set<Element>> calls = new HashMap<>();
    private Element method = null;

    private SourceTest(Trees trees, CompilationUnitTree unit) {
        this.trees = trees;
        this.unit = unit;
        positions = trees.getSourcePositions();
    }

    public static void main(String[] args) throws Exception {
        JavaCompiler compiler = ToolProvider.getSystemJavaCompiler();
        try (StandardJavaFileManager files = compiler.getStandardFileManager(null, null, null)) {
            JavacTask task = (JavacTask) compiler.getTask(
                null, files, null, List.of("-proc:none"), null, files.getJavaFileObjects(SOURCE));
            for (CompilationUnitTree unit : task.parse()) {
                task.analyze();
                SourceTest test = new SourceTest(Trees.instance(task), unit);
                test.scan(unit, null);
                test.checkDepth();
            }
        }
        CHECK.end();
    }

    private String at(Tree tree) {
        LineMap lines = unit.getLineMap();
        return "line " + lines.getLineNumber(positions.getStartPosition(unit, tree)) + ": ";
    }

    private Void ruledOut(Tree tree, String rule) {
        CHECK.due(at(tree) + rule, true, false);
        return null;
    }

    private Element elementHere() {
        return trees.getElement(getCurrentPath());
    }

    private static boolean isOwn(Element element) {
        Element outer = element;
        while (outer.getEnclosingElement() != null && outer.getEnclosingElement().getKind() != ElementKind.PACKAGE) {
            outer = outer.getEnclosingElement();
        }
        return outer.toString().equals("KinNumbers");
    }

    @Override
    public Void visitMethod(MethodTree tree, Void nothing) {
        Element before = method;
        method = elementHere();
        calls.putIfAbsent(method, new HashSet<>());
        LineMap lines = unit.getLineMap();
        long first = lines.getLineNumber(positions.getStartPosition(unit, tree));
        long last = lines.getLineNumber(Math.max(0, positions.getEndPosition(unit, tree)));
        CHECK.due(at(tree) + tree.getName() + " is short (rule 11)", last - first < MOST_LINES, true);
        super.visitMethod(tree, nothing);
        method = before;
        return null;
    }

    @Override
    public Void visitMethodInvocation(MethodInvocationTree tree, Void nothing) {
        called(tree);
        return super.visitMethodInvocation(tree, nothing);
    }

    private void called(Tree tree) {
        Element target = elementHere();
        if (isOwn(target)) {
            calls.computeIfAbsent(method, caller -> new HashSet<>()).add(target);
        } else {
            String name = target.getEnclosingElement() + "." + target.getSimpleName();
            CHECK.due(at(tree) + name + " is of the library that is left (rule 4)", LIBRARY.contains(name), true);
        }
    }

    /** Rule 12, and the room that all calls of a run share: rows are made with the object. */
    private void madeHere(Tree tree) {
        boolean withTheObject = method == null || method.getKind() == ElementKind.CONSTRUCTOR;
        CHECK.due(at(tree) + "is made with the object (rule 12)", withTheObject, true);
    }

    @Override
    public Void visitNewClass(NewClassTree tree, Void nothing) {
        madeHere(tree);
        CHECK.due(at(tree) + "has no body of its own (rule 2)", tree.getClassBody() == null, true);
        called(tree);
        return super.visitNewClass(tree, nothing);
    }

    @Override
    public Void visitNewArray(NewArrayTree tree, Void nothing) {
        madeHere(tree);
        return super.visitNewArray(tree, nothing);
    }

    @Override
    public Void visitClass(ClassTree tree, Void nothing) {
        CHECK.due(at(tree) + tree.getSimpleName() + " stands in no method (rule 2)", method == null, true);
        return super.visitClass(tree, nothing);
    }

    @Override
    public Void visitForLoop(ForLoopTree tree, Void nothing) {
        boolean counted = tree.getInitializer().size() == 1 && tree.getCondition() != null && tree.getUpdate().size() == 1;
        CHECK.due(at(tree) + "the loop counts up to a bound (rule 9)", counted, true);
        return super.visitForLoop(tree, nothing);
    }

    @Override
    public Void visitWhileLoop(WhileLoopTree tree, Void nothing) {
        return ruledOut(tree, "a while loop (rule 9)");
    }

    @Override
    public Void visitDoWhileLoop(DoWhileLoopTree tree, Void nothing) {
        return ruledOut(tree, "a do loop (rule 9)");
    }

    @Override
    public Void visitEnhancedForLoop(EnhancedForLoopTree tree, Void nothing) {
        TypeMirror over = trees.getTypeMirror(new TreePath(getCurrentPath(), tree.getExpression()));
        CHECK.due(at(tree) + "the loop goes over an array (rule 12)", over.getKind() == TypeKind.ARRAY, true);
        return super.visitEnhancedForLoop(tree, nothing);
    }

    @Override
    public Void visitLambdaExpression(LambdaExpressionTree tree, Void nothing) {
        return ruledOut(tree, "a lambda (rule 2)");
    }

    @Override
    public Void visitMemberReference(MemberReferenceTree tree, Void nothing) {
        return ruledOut(tree, "a method reference (rule 2)");
    }

    @Override
    public Void visitThrow(ThrowTree tree, Void nothing) {
        return ruledOut(tree, "a throw, though the document names no exception (rule 6)");
    }

    @Override
    public Void visitTry(TryTree tree, Void nothing) {
        return ruledOut(tree, "a try, though nothing throws (rule 6)");
    }

    @Override
    public Void visitSynchronized(SynchronizedTree tree, Void nothing) {
        return ruledOut(tree, "synchronized (rule 6)");
    }

    @Override
    public Void visitAssert(AssertTree tree, Void nothing) {
        return ruledOut(tree, "an assert (rule 6)");
    }

    @Override
    public Void visitTypeCast(TypeCastTree tree, Void nothing) {
        return ruledOut(tree, "a cast, though none is needed (rule 6)");
    }

    @Override
    public Void visitAnnotation(AnnotationTree tree, Void nothing) {
        return ruledOut(tree, "an annotation");
    }

    private void checkDepth() {
        CHECK.due("methods were seen", calls.size() > 20, true);
        for (Element start : calls.keySet()) {
            int depth = depth(start, new HashSet<>());
            CHECK.due(start + " calls " + depth + " deep (rules 8 and 11)", depth <= MOST_CALLS_DEEP, true);
        }
    }

    /** One more than the deepest that is called; far too deep for one that calls itself. */
    private int depth(Element caller, Set<Element> open) {
        if (!open.add(caller)) {
            return MOST_CALLS_DEEP + 1;
        }
        int deepest = 0;
        for (Element target : calls.getOrDefault(caller, Set.of())) {
            deepest = Math.max(deepest, depth(target, open));
        }
        open.remove(caller);
        return deepest + 1;
    }
}
