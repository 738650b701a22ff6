import com.sun.source.tree.BinaryTree;
import com.sun.source.tree.ClassTree;
import com.sun.source.tree.CompilationUnitTree;
import com.sun.source.tree.CompoundAssignmentTree;
import com.sun.source.tree.DoWhileLoopTree;
import com.sun.source.tree.EnhancedForLoopTree;
import com.sun.source.tree.ExpressionTree;
import com.sun.source.tree.ForLoopTree;
import com.sun.source.tree.IdentifierTree;
import com.sun.source.tree.LambdaExpressionTree;
import com.sun.source.tree.LiteralTree;
import com.sun.source.tree.MemberReferenceTree;
import com.sun.source.tree.MethodInvocationTree;
import com.sun.source.tree.NewArrayTree;
import com.sun.source.tree.NewClassTree;
import com.sun.source.tree.ThrowTree;
import com.sun.source.tree.Tree;
import com.sun.source.tree.TryTree;
import com.sun.source.tree.TypeCastTree;
import com.sun.source.tree.VariableTree;
import com.sun.source.tree.WhileLoopTree;
import com.sun.source.util.JavacTask;
import com.sun.source.util.TreePath;
import com.sun.source.util.TreePathScanner;
import com.sun.source.util.Trees;
import java.io.IOException;
import java.nio.file.Path;
import java.util.List;
import java.util.Map;
import java.util.Set;
import javax.lang.model.element.Element;
import javax.lang.model.element.Modifier;
import javax.lang.model.type.TypeKind;
import javax.lang.model.type.TypeMirror;
import javax.tools.JavaCompiler;
import javax.tools.StandardJavaFileManager;
import javax.tools.ToolProvider;

/** What the compiler tells of src/main/java/Miceline.java of the rules of LANGUAGE.md: the types of all that it has. */
public final class TreeTest extends TreePathScanner<Void, Void> {
    private static final Set<String> OWN_TYPES = Set.of("Miceline", "Miceline.Section", "Miceline.Route",
            "Miceline.Train", "Miceline.Proof");
    private static final Set<String> PLAIN_TYPES = Set.of("int", "long", "boolean", "char", "int[]", "long[]",
            "Miceline.Section[]", "java.lang.String", "java.lang.StringBuilder");
    // Of rule 4 what the program uses; what else that rule lets is to be put in here when it is used.
    private static final Map<String, Set<String>> LIBRARY = Map.of(
            "java.lang.StringBuilder", Set.of("append", "toString"),
            "java.lang.String", Set.of("length"),
            "java.lang.Integer", Set.of("bitCount"),
            "java.lang.Math", Set.of("max"),
            "java.util.ArrayList", Set.of("add", "get", "size"),
            "java.util.Arrays", Set.of("fill"));

    private final Checks checks = new Checks("TreeTest");
    private final Trees trees;
    private final CompilationUnitTree unit;

    private TreeTest(Trees trees, CompilationUnitTree unit) {
        this.trees = trees;
        this.unit = unit;
    }

    public static void main(String[] args) throws IOException {
        JavaCompiler compiler = ToolProvider.getSystemJavaCompiler();
        try (StandardJavaFileManager files = compiler.getStandardFileManager(null, null, null)) {
            JavacTask task = (JavacTask) compiler.getTask(null, files, null, List.of("-proc:none"), null,
                    files.getJavaFileObjects(Path.of("src/main/java/Miceline.java")));
            CompilationUnitTree unit = task.parse().iterator().next();
            task.analyze();
            TreeTest test = new TreeTest(Trees.instance(task), unit);
            test.scan(unit, null);
            test.checks.end();
        }
    }

    private void rule(int rule, String what, boolean kept, Tree at) {
        long line = unit.getLineMap().getLineNumber(trees.getSourcePositions().getStartPosition(unit, at));
        checks.due("rule " + rule + ", line " + line + ": " + what + ": " + at, true, kept);
    }

    private TypeMirror typeOf(Tree tree) {
        return trees.getTypeMirror(new TreePath(getCurrentPath(), tree));
    }

    private boolean isOf(Tree tree, String type) {
        TypeMirror of = typeOf(tree);
        return of != null && of.toString().equals(type);
    }

    private static boolean isLet(TypeMirror type) {
        String name = type.toString();
        if (name.startsWith("java.util.ArrayList<") && name.endsWith(">")) {
            return OWN_TYPES.contains(name.substring(name.indexOf('<') + 1, name.length() - 1));
        }
        return OWN_TYPES.contains(name) || PLAIN_TYPES.contains(name);
    }

    @Override
    public Void visitVariable(VariableTree tree, Void none) {
        rule(3, "a type that is let", isLet(typeOf(tree)), tree);
        if (tree.getModifiers().getFlags().contains(Modifier.STATIC)) {
            rule(5, "a static field is final", tree.getModifiers().getFlags().contains(Modifier.FINAL), tree);
            rule(5, "a static field is a constant", typeOf(tree).getKind().isPrimitive(), tree);
        }
        return super.visitVariable(tree, none);
    }

    @Override
    public Void visitMethodInvocation(MethodInvocationTree tree, Void none) {
        Element called = trees.getElement(getCurrentPath());
        String owner = called.getEnclosingElement().toString();
        String name = called.getSimpleName().toString();
        // A class without a superclass of its own calls that of Object as it is made.
        boolean isMaking = name.equals("<init>") && owner.equals("java.lang.Object");
        rule(4, "a call that is let", isMaking || OWN_TYPES.contains(owner)
                || LIBRARY.getOrDefault(owner, Set.of()).contains(name), tree);
        return super.visitMethodInvocation(tree, none);
    }

    @Override
    public Void visitBinary(BinaryTree tree, Void none) {
        lookAtOperator(tree, tree.getLeftOperand(), tree.getRightOperand(), tree.getKind());
        return super.visitBinary(tree, none);
    }

    @Override
    public Void visitCompoundAssignment(CompoundAssignmentTree tree, Void none) {
        lookAtOperator(tree, tree.getVariable(), tree.getExpression(), tree.getKind());
        return super.visitCompoundAssignment(tree, none);
    }

    private void lookAtOperator(Tree tree, ExpressionTree left, ExpressionTree right, Tree.Kind kind) {
        switch (kind) {
            case AND: case OR: case XOR: case AND_ASSIGNMENT: case OR_ASSIGNMENT: case XOR_ASSIGNMENT:
                rule(10, "masks are of numbers", typeOf(left).getKind() != TypeKind.BOOLEAN, tree);
                break;
            case PLUS: case PLUS_ASSIGNMENT:
                rule(10, "no text is joined by +", !isOf(left, "java.lang.String")
                        && !isOf(right, "java.lang.String"), tree);
                break;
            case DIVIDE: case REMAINDER: case DIVIDE_ASSIGNMENT: case REMAINDER_ASSIGNMENT:
                rule(7, "a divisor is a number written out, not 0", right instanceof LiteralTree
                        && !String.valueOf(((LiteralTree) right).getValue()).equals("0"), tree);
                break;
            case EQUAL_TO: case NOT_EQUAL_TO:
                for (String never : List.of("java.lang.String", "java.lang.Integer")) {
                    rule(6, "never between two of " + never, !isOf(left, never) || !isOf(right, never), tree);
                }
                break;
            default:
                break;
        }
    }

    @Override
    public Void visitTypeCast(TypeCastTree tree, Void none) {
        rule(7, "a cast is one of numbers", typeOf(tree).getKind().isPrimitive(), tree);
        return super.visitTypeCast(tree, none);
    }

    @Override
    public Void visitForLoop(ForLoopTree tree, Void none) {
        rule(9, "a loop has a bound and goes on to it", tree.getCondition() != null && tree.getUpdate().size() == 1,
                tree);
        return super.visitForLoop(tree, none);
    }

    @Override
    public Void visitWhileLoop(WhileLoopTree tree, Void none) {
        rule(9, "no loop without a counter", false, tree);
        return super.visitWhileLoop(tree, none);
    }

    @Override
    public Void visitDoWhileLoop(DoWhileLoopTree tree, Void none) {
        rule(9, "no loop without a counter", false, tree);
        return super.visitDoWhileLoop(tree, none);
    }

    @Override
    public Void visitEnhancedForLoop(EnhancedForLoopTree tree, Void none) {
        rule(12, "a loop over a list goes by index", typeOf(tree.getExpression()).getKind() == TypeKind.ARRAY, tree);
        return super.visitEnhancedForLoop(tree, none);
    }

    @Override
    public Void visitNewClass(NewClassTree tree, Void none) {
        rule(12, "no object is made in a loop", !isWithin(ForLoopTree.class)
                && !isWithin(EnhancedForLoopTree.class), tree);
        rule(2, "no class without a name", tree.getClassBody() == null, tree);
        return super.visitNewClass(tree, none);
    }

    @Override
    public Void visitNewArray(NewArrayTree tree, Void none) {
        rule(12, "no array is made in a loop", !isWithin(ForLoopTree.class)
                && !isWithin(EnhancedForLoopTree.class), tree);
        for (ExpressionTree length : tree.getDimensions()) {
            // A length that is not a number written out would have to be tested for being below 0.
            rule(7, "a length is a constant", length.toString().matches("[A-Z_]+|isShort \\? 2 : 3"), tree);
        }
        return super.visitNewArray(tree, none);
    }

    @Override
    public Void visitThrow(ThrowTree tree, Void none) {
        Element in = trees.getElement(pathOf(com.sun.source.tree.MethodTree.class));
        rule(6, "only a call of the face throws", in.getModifiers().contains(Modifier.PUBLIC)
                && !in.getSimpleName().contentEquals("<init>"), tree);
        return super.visitThrow(tree, none);
    }

    @Override
    public Void visitTry(TryTree tree, Void none) {
        rule(6, "nothing is caught, as nothing that throws is called", false, tree);
        return super.visitTry(tree, none);
    }

    @Override
    public Void visitIdentifier(IdentifierTree tree, Void none) {
        if (tree.getName().contentEquals("this")) {
            rule(12, "this is not handed out", getCurrentPath().getParentPath().getLeaf()
                    .getKind() == Tree.Kind.MEMBER_SELECT, tree);
        }
        return super.visitIdentifier(tree, none);
    }

    @Override
    public Void visitLambdaExpression(LambdaExpressionTree tree, Void none) {
        rule(2, "no lambda", false, tree);
        return super.visitLambdaExpression(tree, none);
    }

    @Override
    public Void visitMemberReference(MemberReferenceTree tree, Void none) {
        rule(2, "no method reference", false, tree);
        return super.visitMemberReference(tree, none);
    }

    @Override
    public Void visitClass(ClassTree tree, Void none) {
        Tree around = getCurrentPath().getParentPath().getLeaf();
        rule(2, "a class stands in the file or in the one class", around == unit
                || around instanceof ClassTree && ((ClassTree) around).getSimpleName().contentEquals("Miceline"), tree);
        return super.visitClass(tree, none);
    }

    private boolean isWithin(Class<? extends Tree> kind) {
        return pathOf(kind) != null;
    }

    private TreePath pathOf(Class<? extends Tree> kind) {
        TreePath path = getCurrentPath();
        while (path != null && !kind.isInstance(path.getLeaf())) {
            path = path.getParentPath();
        }
        return path;
    }
}
