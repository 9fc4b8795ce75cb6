import com.sun.source.tree.AssignmentTree;
import com.sun.source.tree.BinaryTree;
import com.sun.source.tree.ClassTree;
import com.sun.source.tree.CompilationUnitTree;
import com.sun.source.tree.CompoundAssignmentTree;
import com.sun.source.tree.DoWhileLoopTree;
import com.sun.source.tree.EnhancedForLoopTree;
import com.sun.source.tree.ExpressionTree;
import com.sun.source.tree.ForLoopTree;
import com.sun.source.tree.MemberSelectTree;
import com.sun.source.tree.MethodInvocationTree;
import com.sun.source.tree.MethodTree;
import com.sun.source.tree.NewArrayTree;
import com.sun.source.tree.NewClassTree;
import com.sun.source.tree.ThrowTree;
import com.sun.source.tree.Tree;
import com.sun.source.tree.TryTree;
import com.sun.source.tree.UnaryTree;
import com.sun.source.tree.VariableTree;
import com.sun.source.tree.WhileLoopTree;
import com.sun.source.util.JavacTask;
import com.sun.source.util.TreePath;
import com.sun.source.util.TreePathScanner;
import com.sun.source.util.Trees;
import java.io.File;
import java.io.IOException;
import java.util.HashMap;
import java.util.HashSet;
import java.util.List;
import java.util.Map;
import java.util.Set;
import javax.lang.model.element.Element;
import javax.lang.model.element.ElementKind;
import javax.lang.model.element.ExecutableElement;
import javax.lang.model.type.TypeKind;
import javax.lang.model.type.TypeMirror;
import javax.tools.JavaCompiler;
import javax.tools.StandardJavaFileManager;
import javax.tools.ToolProvider;

/** LANGUAGE.md's rules on types, calls, throws and loops, seen in the tree that the compiler makes of the source. */
public final class RulesTest extends TreePathScanner<Void, Void> {
    private static final Due DUE = new Due("RulesTest");
    private static final int DEEPEST = 8;

    private static final Set<String> PLAIN_TYPES =
            Set.of("int", "long", "short", "byte", "char", "boolean", "double", "void", "java.lang.String");
    private static final Set<String> LIBRARY = Set.of(
            "java.lang.String.length", "java.lang.String.charAt", "java.lang.Math.floorDiv", "java.lang.Math.floorMod",
            "java.lang.Math.min", "java.lang.Long.compare");
    private static final Set<String> EXCEPTIONS = Set.of(
            "java.lang.IllegalStateException", "java.lang.IllegalArgumentException",
            "java.lang.IndexOutOfBoundsException", "java.lang.ArithmeticException", "java.util.NoSuchElementException");
    private static final Set<Tree.Kind> ON_REALS = Set.of(
            Tree.Kind.PLUS, Tree.Kind.MINUS, Tree.Kind.MULTIPLY, Tree.Kind.DIVIDE, Tree.Kind.LESS_THAN,
            Tree.Kind.LESS_THAN_EQUAL, Tree.Kind.GREATER_THAN, Tree.Kind.GREATER_THAN_EQUAL, Tree.Kind.EQUAL_TO,
            Tree.Kind.NOT_EQUAL_TO);

    private final Trees trees;
    private final Map<Element, Set<Element>> calls = new HashMap<>();
    private Element method;
    private int loops;

    private RulesTest(Trees trees) {
        this.trees = trees;
    }

    public static void main(String[] args) throws IOException {
        JavaCompiler compiler = ToolProvider.getSystemJavaCompiler();
        try (StandardJavaFileManager files = compiler.getStandardFileManager(null, null, null)) {
            JavacTask task = (JavacTask) compiler.getTask(null, files, null, null, null,
                    files.getJavaFileObjects(new File("src/main/java/EpochDesk.java")));
            Iterable<? extends CompilationUnitTree> units = task.parse();
            task.analyze();
            RulesTest rules = new RulesTest(Trees.instance(task));
            for (CompilationUnitTree unit : units) {
                rules.scan(unit, null);
            }
            rules.callsAreNoDeeper();
        }
        DUE.end();
    }

    private String here(Tree tree) {
        CompilationUnitTree unit = getCurrentPath().getCompilationUnit();
        long at = trees.getSourcePositions().getStartPosition(unit, tree);
        return "line " + unit.getLineMap().getLineNumber(at) + ": ";
    }

    private TypeMirror typeOf(Tree tree) {
        return trees.getTypeMirror(new TreePath(getCurrentPath(), tree));
    }

    private Element elementOf(Tree tree) {
        return trees.getElement(new TreePath(getCurrentPath(), tree));
    }

    private boolean isReal(Tree tree) {
        TypeKind kind = typeOf(tree).getKind();
        return kind == TypeKind.DOUBLE || kind == TypeKind.FLOAT;
    }

    private boolean isText(Tree tree) {
        // A written text's type tells its letters, too.
        return typeOf(tree).toString().startsWith("java.lang.String");
    }

    private static boolean isOwn(String type) {
        return type.startsWith("EpochDesk");
    }

    /** Rule 3: numbers, texts, own classes, and arrays of them of one dimension. */
    private void isAllowed(Tree tree, TypeMirror type) {
        String name = type.toString().replaceFirst("\\[\\]$", "");
        DUE.isTrue(here(tree) + "type " + type, isOwn(name) || PLAIN_TYPES.contains(name));
    }

    @Override
    public Void visitVariable(VariableTree tree, Void none) {
        isAllowed(tree, trees.getTypeMirror(getCurrentPath()));
        return super.visitVariable(tree, none);
    }

    @Override
    public Void visitMethod(MethodTree tree, Void none) {
        method = trees.getElement(getCurrentPath());
        calls.computeIfAbsent(method, one -> new HashSet<>());
        if (tree.getReturnType() != null) {
            isAllowed(tree, ((ExecutableElement) method).getReturnType());
        }
        super.visitMethod(tree, none);
        method = null;
        return null;
    }

    /** Rule 4 for those of the library, rules 8 and 11 for our own. */
    @Override
    public Void visitMethodInvocation(MethodInvocationTree tree, Void none) {
        called(tree, elementOf(tree.getMethodSelect()));
        return super.visitMethodInvocation(tree, none);
    }

    private void called(Tree tree, Element callee) {
        String owner = callee.getEnclosingElement().toString();
        boolean isSuper = callee.getKind() == ElementKind.CONSTRUCTOR && owner.equals("java.lang.Object");
        if (isOwn(owner)) {
            DUE.isTrue(here(tree) + "called in a method", method != null);
            calls.computeIfAbsent(method, one -> new HashSet<>()).add(callee);
        } else {
            String name = owner + "." + callee.getSimpleName();
            DUE.isTrue(here(tree) + "call of " + name, isSuper || LIBRARY.contains(name));
        }
    }

    /** Rule 6 for exceptions, rule 12 for what a loop makes. */
    @Override
    public Void visitNewClass(NewClassTree tree, Void none) {
        String type = typeOf(tree.getIdentifier()).toString();
        boolean isThrown = getCurrentPath().getParentPath().getLeaf() instanceof ThrowTree;
        DUE.isTrue(here(tree) + "new " + type, isThrown ? EXCEPTIONS.contains(type) : isOwn(type));
        DUE.isTrue(here(tree) + "no body of its own", tree.getClassBody() == null);
        DUE.same(here(tree) + "loops round new " + type, loops, 0L);
        if (!isThrown) {
            called(tree, trees.getElement(getCurrentPath()));
        }
        return super.visitNewClass(tree, none);
    }

    @Override
    public Void visitNewArray(NewArrayTree tree, Void none) {
        DUE.same(here(tree) + "loops round an array that is made", loops, 0L);
        return super.visitNewArray(tree, none);
    }

    /** Rule 6. */
    @Override
    public Void visitThrow(ThrowTree tree, Void none) {
        DUE.isTrue(here(tree) + "throws what is new", tree.getExpression() instanceof NewClassTree);
        DUE.isTrue(here(tree) + "no throw in a constructor", method.getKind() == ElementKind.METHOD);
        return super.visitThrow(tree, none);
    }

    @Override
    public Void visitTry(TryTree tree, Void none) {
        DUE.isTrue(here(tree) + "no try", false);
        return super.visitTry(tree, none);
    }

    /** Rules 3 and 10, and rule 6 on texts. */
    @Override
    public Void visitBinary(BinaryTree tree, Void none) {
        ExpressionTree left = tree.getLeftOperand();
        ExpressionTree right = tree.getRightOperand();
        if (isReal(left) || isReal(right)) {
            DUE.isTrue(here(tree) + "on reals: " + tree.getKind(), ON_REALS.contains(tree.getKind()));
        }
        DUE.isTrue(here(tree) + "no texts joined or compared by a sign", !isText(left) && !isText(right));
        return super.visitBinary(tree, none);
    }

    @Override
    public Void visitUnary(UnaryTree tree, Void none) {
        DUE.isTrue(here(tree) + "no reals are counted up", !isReal(tree.getExpression())
                || tree.getKind() == Tree.Kind.UNARY_MINUS);
        return super.visitUnary(tree, none);
    }

    @Override
    public Void visitCompoundAssignment(CompoundAssignmentTree tree, Void none) {
        DUE.isTrue(here(tree) + "no reals or texts added to", !isReal(tree.getVariable()) && !isText(tree.getVariable()));
        return super.visitCompoundAssignment(tree, none);
    }

    /** Rule 5: no static field changes, nor an element of one. */
    @Override
    public Void visitAssignment(AssignmentTree tree, Void none) {
        String target = tree.getVariable().toString();
        DUE.isTrue(here(tree) + target + " is no constant", !target.matches("(\\w+\\.)*[A-Z][A-Z0-9_]+(\\[.*)?"));
        return super.visitAssignment(tree, none);
    }

    /** Rule 9: a counter against a bound. */
    @Override
    public Void visitForLoop(ForLoopTree tree, Void none) {
        isBounded(tree, tree.getCondition());
        DUE.same(here(tree) + "counters", tree.getUpdate().size(), 1L);
        loops++;
        super.visitForLoop(tree, none);
        loops--;
        return null;
    }

    @Override
    public Void visitWhileLoop(WhileLoopTree tree, Void none) {
        isBounded(tree, tree.getCondition());
        loops++;
        super.visitWhileLoop(tree, none);
        loops--;
        return null;
    }

    private void isBounded(Tree loop, ExpressionTree condition) {
        String words = condition == null ? "" : condition.toString();
        DUE.isTrue(here(loop) + "a counter against a bound: " + words, words.matches("\\(?\\w+ (<|<=|>=) .*"));
    }

    @Override
    public Void visitDoWhileLoop(DoWhileLoopTree tree, Void none) {
        DUE.isTrue(here(tree) + "no do", false);
        return super.visitDoWhileLoop(tree, none);
    }

    @Override
    public Void visitEnhancedForLoop(EnhancedForLoopTree tree, Void none) {
        loops++;
        super.visitEnhancedForLoop(tree, none);
        loops--;
        return null;
    }

    /** Rule 2: plain classes alone; that they are hidden and static FaceTest sees. */
    @Override
    public Void visitClass(ClassTree tree, Void none) {
        DUE.same(here(tree) + tree.getSimpleName(), tree.getKind().toString(), "CLASS");
        DUE.isTrue(here(tree) + "extends nothing", tree.getExtendsClause() == null && tree.getImplementsClause().isEmpty());
        return super.visitClass(tree, none);
    }

    @Override
    public Void visitMemberSelect(MemberSelectTree tree, Void none) {
        DUE.isTrue(here(tree) + "no class objects", !tree.getIdentifier().contentEquals("class"));
        return super.visitMemberSelect(tree, none);
    }

    private void callsAreNoDeeper() {
        int deepest = 0;
        for (Element one : List.copyOf(calls.keySet())) {
            int depth = depthFrom(one, Set.of());
            DUE.isTrue(one.getEnclosingElement() + "." + one + " calls " + depth + " deep", depth <= DEEPEST);
            deepest = Math.max(deepest, depth);
        }
        DUE.isTrue("calls were found", deepest > 1);
        System.out.println("RulesTest: calls go " + deepest + " deep");
    }

    /** The call of this method itself counts as the first; recursion, which the program does without, as too deep. */
    private int depthFrom(Element one, Set<Element> open) {
        if (open.contains(one)) {
            return DEEPEST + 1;
        }
        Set<Element> within = new HashSet<>(open);
        within.add(one);
        int below = 0;
        for (Element callee : calls.getOrDefault(one, Set.of())) {
            below = Math.max(below, depthFrom(callee, within));
        }
        return below + 1;
    }
}
