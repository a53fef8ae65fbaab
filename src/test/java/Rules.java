import com.sun.source.tree.ArrayAccessTree;
import com.sun.source.tree.AssertTree;
import com.sun.source.tree.AssignmentTree;
import com.sun.source.tree.BinaryTree;
import com.sun.source.tree.BlockTree;
import com.sun.source.tree.ClassTree;
import com.sun.source.tree.CompilationUnitTree;
import com.sun.source.tree.CompoundAssignmentTree;
import com.sun.source.tree.DoWhileLoopTree;
import com.sun.source.tree.EnhancedForLoopTree;
import com.sun.source.tree.ExpressionTree;
import com.sun.source.tree.ForLoopTree;
import com.sun.source.tree.LambdaExpressionTree;
import com.sun.source.tree.MemberReferenceTree;
import com.sun.source.tree.MethodInvocationTree;
import com.sun.source.tree.MethodTree;
import com.sun.source.tree.NewArrayTree;
import com.sun.source.tree.NewClassTree;
import com.sun.source.tree.SwitchTree;
import com.sun.source.tree.SynchronizedTree;
import com.sun.source.tree.ThrowTree;
import com.sun.source.tree.Tree;
import com.sun.source.tree.TryTree;
import com.sun.source.tree.UnaryTree;
import com.sun.source.tree.VariableTree;
import com.sun.source.tree.WhileLoopTree;
import com.sun.source.util.JavacTask;
import com.sun.source.util.TreePath;
import com.sun.source.util.TreePathScanner;
import com.sun.source.util.Trees;
import java.io.IOException;
import java.net.URI;
import java.util.ArrayList;
import java.util.Comparator;
import java.util.List;
import java.util.Map;
import java.util.Set;
import java.util.TreeMap;
import java.util.TreeSet;
import javax.lang.model.element.Element;
import javax.lang.model.element.ElementKind;
import javax.lang.model.element.Modifier;
import javax.lang.model.type.ArrayType;
import javax.lang.model.type.TypeKind;
import javax.lang.model.type.TypeMirror;
import javax.tools.JavaFileObject;
import javax.tools.SimpleJavaFileObject;
import javax.tools.ToolProvider;

/**
 * Reads a source with javac's own parser, and tells what in it breaks a rule of LANGUAGE.md. It is narrower than
 * these rules: it allows the parts of them that ProofMarks uses, so that whoever needs more looks them up again.
 */
final class Rules extends TreePathScanner<Void, Void> {
    private static final Set<String> LIBRARY =
        Set.of("System.arraycopy", "Math.min", "Math.max", "Integer.bitCount", "Object.<init>");
    private static final int MOST_LINES = 60, MOST_PARAMETERS = 7, MOST_DEEP = 8, MOST_CLASSES = 12, MOST_FIELDS = 20;

    private final Trees trees;
    private final CompilationUnitTree unit;
    private final Set<String> broken = new TreeSet<>();
    private final Map<String, Set<String>> calls = new TreeMap<>();
    private int classes = 0;

    private Rules(Trees trees, CompilationUnitTree unit) {
        this.trees = trees;
        this.unit = unit;
    }

    /** What breaks a rule, each with the rule's number and its line; empty if nothing does. */
    static Set<String> brokenBy(String source) throws IOException {
        JavaFileObject file = new SimpleJavaFileObject(URI.create("string:///ProofMarks.java"), JavaFileObject.Kind.SOURCE) {
            @Override
            public CharSequence getCharContent(boolean ignoreErrors) {
                return source;
            }
        };
        JavacTask task = (JavacTask) ToolProvider.getSystemJavaCompiler()
            .getTask(null, null, null, List.of("-proc:none", "-Xlint:none"), null, List.of(file));
        CompilationUnitTree unit = task.parse().iterator().next();
        task.analyze();
        Rules rules = new Rules(Trees.instance(task), unit);
        rules.scan(unit, null);
        rules.depths();
        return rules.broken;
    }

    private void breaks(int rule, String what, Tree where) {
        long line = unit.getLineMap().getLineNumber(trees.getSourcePositions().getStartPosition(unit, where));
        broken.add("rule " + rule + ", line " + line + ": " + what);
    }

    // ---- where a tree stands, and what it is

    private MethodTree method() {
        for (TreePath path = getCurrentPath(); path != null; path = path.getParentPath()) {
            if (path.getLeaf() instanceof MethodTree method) {
                return method;
            }
        }
        return null;
    }

    private static String nameOf(Element element) {
        return element.getEnclosingElement().getSimpleName() + "." + element.getSimpleName();
    }

    private boolean isOwn(Element element) {
        for (Element outer = element; outer != null; outer = outer.getEnclosingElement()) {
            if (outer.getKind() == ElementKind.CLASS && outer.getSimpleName().contentEquals("ProofMarks")) {
                return true;
            }
        }
        return false;
    }

    private TypeMirror typeOf(Tree tree) {
        return trees.getTypeMirror(new TreePath(getCurrentPath(), tree));
    }

    private boolean isOwnType(TypeMirror type) {
        return type.getKind() == TypeKind.DECLARED && type.toString().startsWith("ProofMarks");
    }

    private static boolean isString(TypeMirror type) {
        return type != null && type.toString().equals("java.lang.String");
    }

    private boolean isAllowed(TypeMirror type) {
        if (type instanceof ArrayType array) {
            TypeMirror inner = array.getComponentType();
            return inner.getKind() == TypeKind.ARRAY
                ? ((ArrayType) inner).getComponentType().getKind().isPrimitive() : inner.getKind().isPrimitive() || isOwnType(inner);
        }
        return type.getKind().isPrimitive() || isOwnType(type) || isString(type);
    }

    // ---- rules 1 to 3, 5 and 11: members, types and sizes

    @Override
    public Void visitCompilationUnit(CompilationUnitTree tree, Void none) {
        if (tree.getPackage() != null || !tree.getImports().isEmpty() || tree.getTypeDecls().size() != 1) {
            breaks(4, "a package, an import, or a second class", tree);
        }
        return super.visitCompilationUnit(tree, none);
    }

    @Override
    public Void visitClass(ClassTree tree, Void none) {
        classes++;
        boolean outer = getCurrentPath().getParentPath().getLeaf() instanceof CompilationUnitTree;
        if (tree.getKind() != Tree.Kind.CLASS) {
            breaks(2, "a class of another kind; see the rule before it is allowed here", tree);
        }
        if (!outer && !tree.getModifiers().getFlags().contains(Modifier.STATIC)) {
            breaks(2, "a class inside that is not static", tree);
        }
        if (classes == MOST_CLASSES + 1) {
            breaks(11, "too many classes", tree);
        }
        long fields = tree.getMembers().stream().filter(m -> m instanceof VariableTree v
            && !v.getModifiers().getFlags().contains(Modifier.STATIC)).count();
        if (fields > MOST_FIELDS) {
            breaks(11, "too many fields", tree);
        }
        return super.visitClass(tree, none);
    }

    @Override
    public Void visitBlock(BlockTree tree, Void none) {
        if (tree.isStatic()) {
            breaks(5, "a static initialiser block", tree);
        }
        return super.visitBlock(tree, none);
    }

    @Override
    public Void visitVariable(VariableTree tree, Void none) {
        TypeMirror type = trees.getTypeMirror(getCurrentPath());
        if (!isAllowed(type)) {
            breaks(3, "the type " + type, tree);
        }
        if (tree.getModifiers().getFlags().contains(Modifier.STATIC)) {
            boolean constant = type.getKind().isPrimitive() || isString(type);
            boolean written = tree.getInitializer() instanceof NewArrayTree array && array.getInitializers() != null
                && ((ArrayType) type).getComponentType().getKind().isPrimitive();
            if (!tree.getModifiers().getFlags().contains(Modifier.FINAL) || !constant && !written) {
                breaks(5, "a static field that is no constant", tree);
            }
        }
        return super.visitVariable(tree, none);
    }

    @Override
    public Void visitMethod(MethodTree tree, Void none) {
        long first = trees.getSourcePositions().getStartPosition(unit, tree);
        long last = trees.getSourcePositions().getEndPosition(unit, tree);
        if (first >= 0 && last >= 0
            && unit.getLineMap().getLineNumber(last) - unit.getLineMap().getLineNumber(first) >= MOST_LINES) {
            breaks(11, "a long method", tree);
        }
        if (tree.getParameters().size() > MOST_PARAMETERS) {
            breaks(11, "too many parameters", tree);
        }
        if (!tree.getThrows().isEmpty()) {
            breaks(6, "throws", tree);
        }
        calls.computeIfAbsent(nameOf(trees.getElement(getCurrentPath())), m -> new TreeSet<>());
        return super.visitMethod(tree, none);
    }

    private void neverChanged(ExpressionTree target) {
        if (target instanceof ArrayAccessTree access) {
            Element array = trees.getElement(new TreePath(getCurrentPath(), access.getExpression()));
            if (array != null && array.getKind() == ElementKind.FIELD && array.getModifiers().contains(Modifier.STATIC)) {
                breaks(5, "a static array is changed", target);
            }
        }
    }

    @Override
    public Void visitAssignment(AssignmentTree tree, Void none) {
        neverChanged(tree.getVariable());
        return super.visitAssignment(tree, none);
    }

    @Override
    public Void visitUnary(UnaryTree tree, Void none) {
        neverChanged(tree.getExpression());
        return super.visitUnary(tree, none);
    }

    @Override
    public Void visitCompoundAssignment(CompoundAssignmentTree tree, Void none) {
        neverChanged(tree.getVariable());
        if (isString(typeOf(tree.getVariable()))) {
            breaks(10, "texts joined by +=", tree);
        }
        return super.visitCompoundAssignment(tree, none);
    }

    // ---- rules 4, 8, 11 and 12: calls, and what is made

    @Override
    public Void visitMethodInvocation(MethodInvocationTree tree, Void none) {
        Element called = trees.getElement(getCurrentPath());
        if (!isOwn(called) && !LIBRARY.contains(nameOf(called))) {
            breaks(4, "the library's " + nameOf(called), tree);
        }
        MethodTree caller = method();
        if (caller != null) {
            String name = nameOf(trees.getElement(trees.getPath(unit, caller)));
            calls.computeIfAbsent(name, m -> new TreeSet<>()).add(nameOf(called));
        }
        return super.visitMethodInvocation(tree, none);
    }

    private void made(Tree tree) {
        MethodTree maker = method();
        if (maker != null && maker.getReturnType() != null) {
            breaks(12, "something is made outside of a constructor", tree);
        }
    }

    @Override
    public Void visitNewClass(NewClassTree tree, Void none) {
        made(tree);
        if (tree.getClassBody() != null) {
            breaks(2, "an anonymous class", tree);
        } else if (!isOwnType(trees.getTypeMirror(getCurrentPath()))) {
            breaks(4, "an object of the library", tree);
        }
        return super.visitNewClass(tree, none);
    }

    @Override
    public Void visitNewArray(NewArrayTree tree, Void none) {
        made(tree);
        return super.visitNewArray(tree, none);
    }

    private void depths() {
        for (String method : calls.keySet()) {
            List<String> deepest = deepest(method, new ArrayList<>());
            if (deepest.size() > MOST_DEEP) {
                broken.add("rule 11: calls too deep: " + deepest);
            }
        }
    }

    /** The longest row of calls that begins with a method; a recursion is told, and not followed. */
    private List<String> deepest(String method, List<String> above) {
        List<String> row = new ArrayList<>(above);
        row.add(method);
        if (above.contains(method)) {
            broken.add("rule 8: a recursion; see the rule before it is allowed here: " + row);
            return List.of();
        }
        List<String> below = calls.getOrDefault(method, Set.of()).stream().map(called -> deepest(called, row))
            .max(Comparator.comparingInt(List::size)).orElse(List.of());
        List<String> all = new ArrayList<>(List.of(method));
        all.addAll(below);
        return all;
    }

    // ---- rules 2, 6, 9 and 10: statements and expressions

    @Override
    public Void visitLambdaExpression(LambdaExpressionTree tree, Void none) {
        breaks(2, "a lambda", tree);
        return null;
    }

    @Override
    public Void visitMemberReference(MemberReferenceTree tree, Void none) {
        breaks(2, "a method reference", tree);
        return null;
    }

    @Override
    public Void visitThrow(ThrowTree tree, Void none) {
        breaks(6, "throw", tree);
        return super.visitThrow(tree, none);
    }

    @Override
    public Void visitTry(TryTree tree, Void none) {
        breaks(6, "try", tree);
        return super.visitTry(tree, none);
    }

    @Override
    public Void visitSynchronized(SynchronizedTree tree, Void none) {
        breaks(6, "synchronized", tree);
        return super.visitSynchronized(tree, none);
    }

    @Override
    public Void visitAssert(AssertTree tree, Void none) {
        breaks(6, "assert", tree);
        return super.visitAssert(tree, none);
    }

    @Override
    public Void visitSwitch(SwitchTree tree, Void none) {
        TypeMirror type = typeOf(tree.getExpression());
        if (type == null || !type.getKind().isPrimitive()) {
            breaks(10, "a switch on something else than a number", tree);
        }
        return super.visitSwitch(tree, none);
    }

    @Override
    public Void visitBinary(BinaryTree tree, Void none) {
        TypeMirror left = typeOf(tree.getLeftOperand());
        TypeMirror right = typeOf(tree.getRightOperand());
        boolean texts = isString(left) || isString(right);
        if (tree.getKind() == Tree.Kind.PLUS && texts) {
            breaks(10, "texts joined by +", tree);
        }
        if ((tree.getKind() == Tree.Kind.EQUAL_TO || tree.getKind() == Tree.Kind.NOT_EQUAL_TO)
            && texts && left.getKind() != TypeKind.NULL && right.getKind() != TypeKind.NULL) {
            breaks(6, "texts compared by their references", tree);
        }
        return super.visitBinary(tree, none);
    }

    /** A loop's own line has to compare a counter with a bound. */
    private void ends(ExpressionTree condition, Tree loop) {
        if (condition == null || !condition.toString().matches("(?s).*[<>].*")) {
            breaks(9, "a loop whose end cannot be seen", loop);
        }
    }

    @Override
    public Void visitForLoop(ForLoopTree tree, Void none) {
        ends(tree.getCondition(), tree);
        return super.visitForLoop(tree, none);
    }

    @Override
    public Void visitWhileLoop(WhileLoopTree tree, Void none) {
        ends(tree.getCondition(), tree);
        return super.visitWhileLoop(tree, none);
    }

    @Override
    public Void visitDoWhileLoop(DoWhileLoopTree tree, Void none) {
        ends(tree.getCondition(), tree);
        return super.visitDoWhileLoop(tree, none);
    }

    @Override
    public Void visitEnhancedForLoop(EnhancedForLoopTree tree, Void none) {
        if (typeOf(tree.getExpression()).getKind() != TypeKind.ARRAY) {
            breaks(10, "a for over something else than an array", tree);
        }
        return super.visitEnhancedForLoop(tree, none);
    }
}
