import com.sun.source.tree.*;
import com.sun.source.util.JavacTask;
import com.sun.source.util.SourcePositions;
import com.sun.source.util.TreePath;
import com.sun.source.util.TreePathScanner;
import com.sun.source.util.Trees;
import java.io.IOException;
import java.util.HashMap;
import java.util.HashSet;
import java.util.List;
import java.util.Map;
import java.util.Set;
import java.util.TreeSet;
import javax.lang.model.element.Modifier;
import javax.tools.JavaCompiler;
import javax.tools.StandardJavaFileManager;
import javax.tools.ToolProvider;

/** LANGUAGE.md by its numbers, looked for in the class's source as the compiler reads it. */
public final class StructureTest extends TreePathScanner<Void, Void> {
    private static final Checks c = new Checks("StructureTest");
    private static final Set<String> LIBRARY = Set.of("Math.max", "Math.min", "Math.abs", "System.arraycopy");
    private static final int PARAMETERS_MOST = 7, METHOD_LINES_MOST = 60, CALLS_DEEP_MOST = 8, CLASSES_MOST = 12, FIELDS_MOST = 20;

    private final CompilationUnitTree unit;
    private final SourcePositions positions;
    private final String source;
    private final Set<String> classes = new TreeSet<>();
    private final Set<String> constants = new HashSet<>();
    private final Map<String, MethodTree> methods = new HashMap<>();
    private final Map<String, Set<String>> calls = new HashMap<>();

    private StructureTest(CompilationUnitTree unit, SourcePositions positions) throws IOException {
        this.unit = unit;
        this.positions = positions;
        source = unit.getSourceFile().getCharContent(true).toString();
    }

    public static void main(String[] args) throws IOException {
        JavaCompiler compiler = ToolProvider.getSystemJavaCompiler();
        try (StandardJavaFileManager files = compiler.getStandardFileManager(null, null, null)) {
            JavacTask task = (JavacTask) compiler.getTask(null, files, null, List.of("-proc:none"), null,
                    files.getJavaFileObjects(Sources.main()));
            StructureTest test = new StructureTest(task.parse().iterator().next(), Trees.instance(task).getSourcePositions());
            test.nameAll();
            test.scan(test.unit, null);
            test.callsInCalls();
            c.end();
        }
    }

    /** What LANGUAGE.md forbids and stands there is told with the rule's number and its line. */
    private void rule(int number, String what, boolean keeps, Tree where) {
        long line = unit.getLineMap().getLineNumber(positions.getStartPosition(unit, where));
        c.due("rule " + number + ", line " + line + ": " + what, keeps ? 1 : 0, 1);
    }

    // ---- names, ahead of all else

    private void nameAll() {
        rule(1, "no package line", unit.getPackageName() == null, unit);
        rule(4, "no import", unit.getImports().isEmpty(), unit);
        rule(1, "one class at the top", unit.getTypeDecls().size() == 1, unit);
        new TreePathScanner<Void, Void>() {
            @Override
            public Void visitClass(ClassTree tree, Void none) {
                classes.add(tree.getSimpleName().toString());
                for (Tree member : tree.getMembers()) {
                    if (member instanceof VariableTree field && field.getModifiers().getFlags().contains(Modifier.STATIC)) {
                        constants.add(field.getName().toString());
                    }
                }
                return super.visitClass(tree, none);
            }

            @Override
            public Void visitMethod(MethodTree tree, Void none) {
                methods.put(tree.getName().toString(), tree);
                return super.visitMethod(tree, none);
            }
        }.scan(unit, null);
        rule(11, "some twelve classes", classes.size() <= CLASSES_MOST, unit);
    }

    // ---- classes, fields, methods

    @Override
    public Void visitClass(ClassTree tree, Void none) {
        Tree parent = getCurrentPath().getParentPath().getLeaf();
        boolean isTop = parent == unit;
        Set<Modifier> flags = tree.getModifiers().getFlags();
        rule(2, "a class stands in a class", isTop || parent instanceof ClassTree, tree);
        rule(2, "a class inside is static", isTop || flags.contains(Modifier.STATIC), tree);
        rule(1, "a class inside is no public one", isTop || !flags.contains(Modifier.PUBLIC) && !flags.contains(Modifier.PROTECTED), tree);
        int fields = 0;
        for (Tree member : tree.getMembers()) {
            rule(5, "no block of a class", !(member instanceof BlockTree), member);
            if (member instanceof VariableTree field) {
                fields += constants.contains(field.getName().toString()) ? 0 : 1;
                field(field, isTop);
            }
        }
        rule(11, "some twenty fields", fields <= FIELDS_MOST, tree);
        return super.visitClass(tree, none);
    }

    private void field(VariableTree field, boolean isTop) {
        Set<Modifier> flags = field.getModifiers().getFlags();
        if (flags.contains(Modifier.STATIC)) {
            rule(5, "a static field is final", flags.contains(Modifier.FINAL), field);
            boolean isArray = field.getType() instanceof ArrayTypeTree;
            boolean isWrittenOut = field.getInitializer() instanceof NewArrayTree made && made.getInitializers() != null;
            rule(5, "a static array is written out", !isArray || isWrittenOut, field);
            rule(5, "a static field is a number or a row of these", isArray || field.getType() instanceof PrimitiveTypeTree, field);
        } else {
            rule(1, "a field is private", !isTop || flags.contains(Modifier.PRIVATE), field);
        }
    }

    @Override
    public Void visitMethod(MethodTree tree, Void none) {
        rule(11, tree.getName() + " takes seven at most", tree.getParameters().size() <= PARAMETERS_MOST, tree);
        rule(6, tree.getName() + " throws nothing", tree.getThrows().isEmpty(), tree);
        long lines = source.substring((int) positions.getStartPosition(unit, tree), (int) positions.getEndPosition(unit, tree)).lines().count();
        rule(11, tree.getName() + " is short", lines <= METHOD_LINES_MOST, tree);
        return super.visitMethod(tree, none);
    }

    @Override
    public Void visitVariable(VariableTree tree, Void none) {
        rule(3, tree + " is of a type that there may be", isType(tree.getType(), 0), tree);
        return super.visitVariable(tree, none);
    }

    private boolean isType(Tree type, int dimensions) {
        if (type instanceof ArrayTypeTree array) {
            return isType(array.getType(), dimensions + 1);
        }
        return type instanceof PrimitiveTypeTree && dimensions <= 2
                || type instanceof IdentifierTree own && classes.contains(own.getName().toString()) && dimensions <= 1;
    }

    // ---- what is said

    @Override
    public Void visitMethodInvocation(MethodInvocationTree tree, Void none) {
        ExpressionTree called = tree.getMethodSelect();
        String name = called instanceof MemberSelectTree select ? select.getIdentifier().toString() : called.toString();
        boolean isOwn = methods.containsKey(name) || name.equals("super");
        rule(4, called + " is an own one or listed", isOwn || LIBRARY.contains(called.toString()), tree);
        if (methods.containsKey(name)) {
            calls.computeIfAbsent(methodHere(), key -> new TreeSet<>()).add(name);
        }
        return super.visitMethodInvocation(tree, none);
    }

    private String methodHere() {
        MethodTree method = enclosing(MethodTree.class);
        return method == null ? "" : method.getName().toString();
    }

    private <T extends Tree> T enclosing(Class<T> kind) {
        for (TreePath path = getCurrentPath(); path != null; path = path.getParentPath()) {
            if (kind.isInstance(path.getLeaf())) {
                return kind.cast(path.getLeaf());
            }
        }
        return null;
    }

    /** The class goes further than rule 12: objects are made by fields and constructors alone. */
    @Override
    public Void visitNewClass(NewClassTree tree, Void none) {
        rule(2, "no class without a name", tree.getClassBody() == null, tree);
        rule(4, tree + " is an own one", classes.contains(tree.getIdentifier().toString()), tree);
        rule(12, tree + " is made by a constructor", methodHere().isEmpty() || methodHere().equals("<init>"), tree);
        return super.visitNewClass(tree, none);
    }

    @Override
    public Void visitNewArray(NewArrayTree tree, Void none) {
        rule(12, tree + " is made by a field", methodHere().isEmpty(), tree);
        for (ExpressionTree length : tree.getDimensions()) {
            rule(7, "the length " + length + " is a constant", isConstant(length), tree);
        }
        return super.visitNewArray(tree, none);
    }

    private boolean isConstant(ExpressionTree tree) {
        if (tree instanceof BinaryTree sum) {
            return isConstant(sum.getLeftOperand()) && isConstant(sum.getRightOperand());
        }
        return tree instanceof LiteralTree || tree instanceof IdentifierTree name && constants.contains(name.getName().toString());
    }

    @Override
    public Void visitBinary(BinaryTree tree, Void none) {
        if (tree.getKind() == Tree.Kind.DIVIDE || tree.getKind() == Tree.Kind.REMAINDER) {
            divisor(tree.getRightOperand());
        }
        return super.visitBinary(tree, none);
    }

    @Override
    public Void visitCompoundAssignment(CompoundAssignmentTree tree, Void none) {
        if (tree.getKind() == Tree.Kind.DIVIDE_ASSIGNMENT || tree.getKind() == Tree.Kind.REMAINDER_ASSIGNMENT) {
            divisor(tree.getExpression());
        }
        changed(tree.getVariable());
        return super.visitCompoundAssignment(tree, none);
    }

    /** A divisor is a constant, or its method looks at it: whether it is above 0. */
    private void divisor(ExpressionTree tree) {
        MethodTree method = enclosing(MethodTree.class);
        String body = method == null ? "" : method.getBody().toString();
        boolean isLookedAt = body.contains(tree + " > 0") || body.contains(tree + " <= 0");
        rule(7, "the divisor " + tree + " is looked at", isConstant(tree) && !tree.toString().equals("0") || isLookedAt, tree);
    }

    @Override
    public Void visitAssignment(AssignmentTree tree, Void none) {
        changed(tree.getVariable());
        return super.visitAssignment(tree, none);
    }

    @Override
    public Void visitUnary(UnaryTree tree, Void none) {
        boolean isStep = Set.of(Tree.Kind.POSTFIX_INCREMENT, Tree.Kind.POSTFIX_DECREMENT,
                Tree.Kind.PREFIX_INCREMENT, Tree.Kind.PREFIX_DECREMENT).contains(tree.getKind());
        if (isStep) {
            changed(tree.getExpression());
        }
        return super.visitUnary(tree, none);
    }

    private void changed(ExpressionTree tree) {
        ExpressionTree whole = tree;
        while (whole instanceof ArrayAccessTree access) {
            whole = access.getExpression();
        }
        rule(5, whole + " is no constant", !constants.contains(whole.toString()), tree);
    }

    // ---- loops

    @Override
    public Void visitForLoop(ForLoopTree tree, Void none) {
        rule(9, "a for has a bound and a step", isBound(tree.getCondition()) && !tree.getUpdate().isEmpty(), tree);
        return super.visitForLoop(tree, none);
    }

    @Override
    public Void visitWhileLoop(WhileLoopTree tree, Void none) {
        rule(9, "a while has a bound", isBound(tree.getCondition()), tree);
        return super.visitWhileLoop(tree, none);
    }

    @Override
    public Void visitDoWhileLoop(DoWhileLoopTree tree, Void none) {
        rule(9, "a do has a bound", isBound(tree.getCondition()), tree);
        return super.visitDoWhileLoop(tree, none);
    }

    private static boolean isBound(ExpressionTree condition) {
        if (condition instanceof ParenthesizedTree inner) {
            return isBound(inner.getExpression());
        }
        if (condition instanceof BinaryTree both && both.getKind() == Tree.Kind.CONDITIONAL_AND) {
            return isBound(both.getLeftOperand()) || isBound(both.getRightOperand());
        }
        return condition != null && Set.of(Tree.Kind.LESS_THAN, Tree.Kind.LESS_THAN_EQUAL).contains(condition.getKind());
    }

    // ---- what must not stand there

    @Override
    public Void visitLambdaExpression(LambdaExpressionTree tree, Void none) {
        rule(2, "no lambda", false, tree);
        return null;
    }

    @Override
    public Void visitMemberReference(MemberReferenceTree tree, Void none) {
        rule(2, "no method reference", false, tree);
        return null;
    }

    @Override
    public Void visitThrow(ThrowTree tree, Void none) {
        rule(6, "no throw", false, tree);
        return null;
    }

    @Override
    public Void visitTry(TryTree tree, Void none) {
        rule(6, "no try", false, tree);
        return null;
    }

    @Override
    public Void visitSynchronized(SynchronizedTree tree, Void none) {
        rule(6, "no synchronized", false, tree);
        return null;
    }

    @Override
    public Void visitAssert(AssertTree tree, Void none) {
        rule(6, "no assert", false, tree);
        return null;
    }

    @Override
    public Void visitTypeCast(TypeCastTree tree, Void none) {
        rule(6, "casts are among numbers", tree.getType() instanceof PrimitiveTypeTree, tree);
        return super.visitTypeCast(tree, none);
    }

    @Override
    public Void visitLiteral(LiteralTree tree, Void none) {
        rule(10, "no text", tree.getKind() != Tree.Kind.STRING_LITERAL, tree);
        rule(3, "no number with a point", tree.getKind() != Tree.Kind.DOUBLE_LITERAL && tree.getKind() != Tree.Kind.FLOAT_LITERAL, tree);
        return super.visitLiteral(tree, none);
    }

    // ---- calls in calls

    private void callsInCalls() {
        rule(11, "calls are found", calls.size() > 20, unit);
        for (String name : methods.keySet()) {
            rule(11, name + " goes eight deep at most", deep(name, 1) <= CALLS_DEEP_MOST, methods.get(name));
            if (calls.getOrDefault(name, Set.of()).contains(name)) {
                Set<Modifier> flags = methods.get(name).getModifiers().getFlags();
                rule(8, name + ", which calls itself, is private and static",
                        flags.contains(Modifier.PRIVATE) && flags.contains(Modifier.STATIC), methods.get(name));
            }
        }
    }

    /** A method that calls itself is counted once; two that called one another would go on to the bound. */
    private int deep(String name, int above) {
        int deepest = above;
        for (String called : calls.getOrDefault(name, Set.of())) {
            if (!called.equals(name) && above <= CALLS_DEEP_MOST) {
                deepest = Math.max(deepest, deep(called, above + 1));
            }
        }
        return deepest;
    }
}
