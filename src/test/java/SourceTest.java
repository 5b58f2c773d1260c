import com.sun.source.tree.ArrayAccessTree;
import com.sun.source.tree.ArrayTypeTree;
import com.sun.source.tree.AssertTree;
import com.sun.source.tree.BinaryTree;
import com.sun.source.tree.BlockTree;
import com.sun.source.tree.ClassTree;
import com.sun.source.tree.CompilationUnitTree;
import com.sun.source.tree.CompoundAssignmentTree;
import com.sun.source.tree.DoWhileLoopTree;
import com.sun.source.tree.EnhancedForLoopTree;
import com.sun.source.tree.ExpressionStatementTree;
import com.sun.source.tree.ExpressionTree;
import com.sun.source.tree.ForLoopTree;
import com.sun.source.tree.ImportTree;
import com.sun.source.tree.LambdaExpressionTree;
import com.sun.source.tree.MemberReferenceTree;
import com.sun.source.tree.MethodInvocationTree;
import com.sun.source.tree.MethodTree;
import com.sun.source.tree.NewArrayTree;
import com.sun.source.tree.NewClassTree;
import com.sun.source.tree.SynchronizedTree;
import com.sun.source.tree.ThrowTree;
import com.sun.source.tree.Tree;
import com.sun.source.tree.TryTree;
import com.sun.source.tree.TypeCastTree;
import com.sun.source.tree.VariableTree;
import com.sun.source.tree.WhileLoopTree;
import com.sun.source.util.JavacTask;
import com.sun.source.util.SourcePositions;
import com.sun.source.util.TreePath;
import com.sun.source.util.TreePathScanner;
import com.sun.source.util.Trees;
import java.io.IOException;
import java.nio.file.Path;
import java.util.List;
import java.util.Set;
import java.util.regex.Pattern;
import javax.lang.model.element.Element;
import javax.lang.model.element.ExecutableElement;
import javax.lang.model.element.Modifier;
import javax.lang.model.element.TypeElement;
import javax.lang.model.type.ArrayType;
import javax.lang.model.type.TypeKind;
import javax.lang.model.type.TypeMirror;
import javax.tools.JavaCompiler;
import javax.tools.StandardJavaFileManager;
import javax.tools.ToolProvider;

/**
 * The class keeps to LANGUAGE.md, as far as its text can tell: what the compiler makes of it is looked through, rule by
 * rule. Stricter than the rules where the class needs less than they leave. Run from the project's folder.
 */
public final class SourceTest extends TreePathScanner<Void, Void> {
    private static final Set<String> LIBRARY = Set.of("java.lang.Math.abs", "java.lang.Math.max", "java.lang.Math.min",
            "java.lang.Math.floorDiv", "java.lang.Math.floorMod", "java.lang.Integer.bitCount",
            "java.lang.System.arraycopy", "java.util.Arrays.fill");
    private static final Set<String> IMPORTS = Set.of("java.util.Arrays", "java.util.ArrayList", "java.util.List");
    private static final int LONGEST = 60;
    private static final int MOST_PARAMETERS = 7;

    private final Check check = new Check();
    private final Calls calls = new Calls();
    private final CompilationUnitTree unit;
    private final Trees trees;

    private SourceTest(JavacTask task) throws IOException {
        unit = task.parse().iterator().next();
        task.analyze();
        trees = Trees.instance(task);
    }

    public static void main(String[] args) throws IOException {
        JavaCompiler compiler = ToolProvider.getSystemJavaCompiler();
        try (StandardJavaFileManager files = compiler.getStandardFileManager(null, null, null)) {
            var source = files.getJavaFileObjects(Path.of("src/main/java/DarkRoom.java"));
            List<String> options = List.of("-proc:none");
            new SourceTest((JavacTask) compiler.getTask(null, files, null, options, null, source)).look();
        }
    }

    private void look() {
        check.holds("no package line", unit.getPackageName() == null);
        check.due("rule 1: classes at the top of the file", unit.getTypeDecls().size(), 1);
        scan(unit, null);
        calls.judge(check);
        check.end();
    }

    private void refuse(int rule, Tree tree) {
        String start = tree.toString().strip().lines().findFirst().orElse("");
        check.holds("rule " + rule + ", line " + line(tree) + ": " + start, false);
    }

    private void allow(int rule, Tree tree, boolean so) {
        if (so) {
            check.holds("rule " + rule, true);
        } else {
            refuse(rule, tree);
        }
    }

    private long line(Tree tree) {
        return unit.getLineMap().getLineNumber(trees.getSourcePositions().getStartPosition(unit, tree));
    }

    private long lines(Tree tree) {
        SourcePositions positions = trees.getSourcePositions();
        return unit.getLineMap().getLineNumber(positions.getEndPosition(unit, tree)) - line(tree) + 1;
    }

    private Tree parent() {
        return getCurrentPath().getParentPath().getLeaf();
    }

    private static boolean isOwn(Element element) {
        return element != null && element.toString().matches("DarkRoom(\\.\\w+)?");
    }

    private boolean isOwn(TypeMirror type) {
        return type != null && type.toString().matches("DarkRoom(\\.\\w+)?");
    }

    /** The method, constructor or class body in which the tree stands. */
    private Tree home() {
        for (TreePath path = getCurrentPath(); path != null; path = path.getParentPath()) {
            if (path.getLeaf() instanceof MethodTree || path.getLeaf() instanceof ClassTree) {
                return path.getLeaf();
            }
        }
        return unit;
    }

    private ExecutableElement homeMethod() {
        return home() instanceof MethodTree method
                ? (ExecutableElement) trees.getElement(trees.getPath(unit, method)) : null;
    }

    // ---- rule 2: no class but static ones side by side; rule 3: types

    @Override
    public Void visitImport(ImportTree tree, Void none) {
        allow(4, tree, IMPORTS.contains(tree.getQualifiedIdentifier().toString()));
        return null;
    }

    @Override
    public Void visitClass(ClassTree tree, Void none) {
        allow(2, tree, parent() instanceof CompilationUnitTree || parent() instanceof ClassTree);
        boolean isStatic = tree.getModifiers().getFlags().contains(Modifier.STATIC);
        allow(2, tree, parent() instanceof CompilationUnitTree || isStatic);
        return super.visitClass(tree, none);
    }

    @Override
    public Void visitLambdaExpression(LambdaExpressionTree tree, Void none) {
        refuse(2, tree);
        return super.visitLambdaExpression(tree, none);
    }

    @Override
    public Void visitMemberReference(MemberReferenceTree tree, Void none) {
        refuse(2, tree);
        return super.visitMemberReference(tree, none);
    }

    @Override
    public Void visitVariable(VariableTree tree, Void none) {
        TypeMirror type = trees.getTypeMirror(getCurrentPath());
        TypeMirror part = type.getKind() == TypeKind.ARRAY ? ((ArrayType) type).getComponentType() : type;
        allow(3, tree, part.getKind().isPrimitive() || isOwn(part));
        allow(3, tree, tree.getType() != null && !tree.getType().toString().equals("var"));
        if (mayBeNull(tree.getInitializer())) {
            allow(7, tree, home().toString().contains(tree.getName() + " == null"));
        }
        if (parent() instanceof ClassTree && tree.getModifiers().getFlags().contains(Modifier.STATIC)) {
            allow(5, tree, tree.getModifiers().getFlags().contains(Modifier.FINAL) && type.getKind().isPrimitive());
        }
        return super.visitVariable(tree, none);
    }

    private static boolean mayBeNull(ExpressionTree value) {
        return value != null && value.toString().matches(".*([?:] null\\b|(partOf|stepBack|stepForth)\\().*");
    }

    @Override
    public Void visitArrayType(ArrayTypeTree tree, Void none) {
        allow(3, tree, !(tree.getType() instanceof ArrayTypeTree));
        return super.visitArrayType(tree, none);
    }

    // ---- rule 4: the library; rule 12: what is made, and where

    @Override
    public Void visitMethodInvocation(MethodInvocationTree tree, Void none) {
        ExecutableElement called = (ExecutableElement) trees.getElement(getCurrentPath());
        Element owner = called.getEnclosingElement();
        String name = ((TypeElement) owner).getQualifiedName() + "." + called.getSimpleName();
        boolean isSuper = tree.getMethodSelect().toString().equals("super");
        allow(4, tree, isOwn(owner) || isSuper || LIBRARY.contains(name));
        if (called.getSimpleName().contentEquals("fill") && !isOwn(owner)) {
            allow(4, tree, called.getParameters().get(0).asType().toString().equals("int[]"));
        }
        if (name.contains(".floor")) {
            checkDivisor(tree, tree.getArguments().get(1));
        }
        if (!isSuper) {
            calls.add(homeMethod(), called);
        }
        return super.visitMethodInvocation(tree, none);
    }

    @Override
    public Void visitNewClass(NewClassTree tree, Void none) {
        allow(2, tree, tree.getClassBody() == null);
        allow(4, tree, isOwn(trees.getTypeMirror(getCurrentPath())));
        allow(12, tree, isMadeOnce());
        calls.add(homeMethod(), (ExecutableElement) trees.getElement(getCurrentPath()));
        return super.visitNewClass(tree, none);
    }

    @Override
    public Void visitNewArray(NewArrayTree tree, Void none) {
        allow(12, tree, isMadeOnce());
        return super.visitNewArray(tree, none);
    }

    /** Rows are made with the object and used again; filter() alone, which FULL bounds, makes something in a call. */
    private boolean isMadeOnce() {
        return !(home() instanceof MethodTree method) || method.getName().contentEquals("<init>")
                || method.getName().contentEquals("filter");
    }

    // ---- rule 6: no exceptions, no locks; casts of numbers alone; rule 7: indices and divisors are looked at

    @Override
    public Void visitThrow(ThrowTree tree, Void none) {
        refuse(6, tree);
        return super.visitThrow(tree, none);
    }

    @Override
    public Void visitTry(TryTree tree, Void none) {
        refuse(6, tree);
        return super.visitTry(tree, none);
    }

    @Override
    public Void visitSynchronized(SynchronizedTree tree, Void none) {
        refuse(6, tree);
        return super.visitSynchronized(tree, none);
    }

    @Override
    public Void visitAssert(AssertTree tree, Void none) {
        refuse(6, tree);
        return super.visitAssert(tree, none);
    }

    @Override
    public Void visitTypeCast(TypeCastTree tree, Void none) {
        allow(6, tree, trees.getTypeMirror(getCurrentPath()).getKind().isPrimitive());
        return super.visitTypeCast(tree, none);
    }

    @Override
    public Void visitBinary(BinaryTree tree, Void none) {
        allow(10, tree, trees.getTypeMirror(getCurrentPath()).getKind().isPrimitive());
        if (tree.getKind() == Tree.Kind.DIVIDE || tree.getKind() == Tree.Kind.REMAINDER) {
            checkDivisor(tree, tree.getRightOperand());
        }
        return super.visitBinary(tree, none);
    }

    @Override
    public Void visitCompoundAssignment(CompoundAssignmentTree tree, Void none) {
        allow(10, tree, trees.getTypeMirror(getCurrentPath()).getKind().isPrimitive());
        Tree.Kind kind = tree.getKind();
        allow(7, tree, kind != Tree.Kind.DIVIDE_ASSIGNMENT && kind != Tree.Kind.REMAINDER_ASSIGNMENT);
        return super.visitCompoundAssignment(tree, none);
    }

    /** An index is something that its method has held against a bound, by itself or by a question of its own. */
    @Override
    public Void visitArrayAccess(ArrayAccessTree tree, Void none) {
        String index = tree.getIndex().toString().replaceFirst(" - 1$", "");
        String quoted = "(?<![\\w.])" + Pattern.quote(index);
        String looked = quoted + " (<|<=|>|>=) |is\\w+\\([^()]*" + quoted + "\\b";
        boolean wrapped = index.matches("Math\\.floorMod\\(.*, [A-Z]+\\)");
        allow(7, tree, wrapped || Pattern.compile(looked).matcher(home().toString()).find());
        return super.visitArrayAccess(tree, none);
    }

    /** A divisor is a number written out, a constant, or what its method has held against 0 (twice it, too). */
    private void checkDivisor(Tree tree, ExpressionTree divisor) {
        String name = divisor.toString().replaceFirst("^2 \\* ", "");
        String looked = Pattern.quote(name) + " (> 0|< 1)|isSide\\(" + Pattern.quote(name) + "\\)";
        boolean written = name.matches("[1-9]\\d*|[A-Z]+");
        allow(7, tree, written || Pattern.compile(looked).matcher(home().toString()).find());
    }

    // ---- rule 5: no block that runs by itself; rules 6, 8, 11: methods

    @Override
    public Void visitBlock(BlockTree tree, Void none) {
        allow(5, tree, !(parent() instanceof ClassTree));
        return super.visitBlock(tree, none);
    }

    @Override
    public Void visitMethod(MethodTree tree, Void none) {
        Set<Modifier> flags = tree.getModifiers().getFlags();
        allow(6, tree, !tree.getName().toString().matches("equals|hashCode|toString"));
        allow(6, tree, tree.getThrows().isEmpty() && !flags.contains(Modifier.SYNCHRONIZED));
        allow(4, tree, !flags.contains(Modifier.NATIVE) && tree.getModifiers().getAnnotations().isEmpty());
        allow(11, tree, tree.getParameters().size() <= MOST_PARAMETERS);
        allow(11, tree, lines(tree) <= LONGEST);
        return super.visitMethod(tree, none);
    }

    // ---- rule 9: a counter against a bound

    @Override
    public Void visitForLoop(ForLoopTree tree, Void none) {
        allow(9, tree, tree.getCondition() != null && tree.getUpdate().size() == 1 && counts(tree));
        return super.visitForLoop(tree, none);
    }

    /** The counter is in the condition, the update alone changes it, and always the same way. */
    private static boolean counts(ForLoopTree tree) {
        ExpressionStatementTree update = tree.getUpdate().get(0);
        String counter = update.toString().replaceAll("\\W*(\\w+).*", "$1").strip();
        boolean steps = update.toString().matches("(?s)" + counter + "(\\+\\+|--| \\+= 1 \\+ each);?");
        return steps && isBounded(tree.getCondition(), counter) && changes(tree.getStatement(), counter) == 0;
    }

    @Override
    public Void visitWhileLoop(WhileLoopTree tree, Void none) {
        String condition = tree.getCondition().toString();
        String counter = condition.replaceAll("^\\W*(\\w+).*", "$1");
        String body = tree.getStatement().toString();
        boolean steps = Pattern.compile("(?m)^\\s*" + counter + "--;").matcher(body).find();
        allow(9, tree, steps && condition.contains(counter + " > 0 &&") && changes(tree.getStatement(), counter) == 1);
        return super.visitWhileLoop(tree, none);
    }

    @Override
    public Void visitDoWhileLoop(DoWhileLoopTree tree, Void none) {
        refuse(9, tree);
        return super.visitDoWhileLoop(tree, none);
    }

    @Override
    public Void visitEnhancedForLoop(EnhancedForLoopTree tree, Void none) {
        TypeMirror over = trees.getTypeMirror(new TreePath(getCurrentPath(), tree.getExpression()));
        allow(9, tree, over.getKind() == TypeKind.ARRAY);
        return super.visitEnhancedForLoop(tree, none);
    }

    private static boolean isBounded(ExpressionTree condition, String counter) {
        return Pattern.compile("\\b" + counter + " (<|<=|>|>=) ").matcher(condition.toString()).find()
                && !condition.toString().contains("||");
    }

    private static long changes(Tree body, String counter) {
        String behind = "(?<![\\w.])" + counter + "( [-+*/%&|^]?=(?!=)| (<<|>>>?)=|\\+\\+|--)";
        String ahead = "(\\+\\+|--)" + counter + "\\b";
        return Pattern.compile(behind + "|" + ahead).matcher(body.toString()).results().count();
    }
}
