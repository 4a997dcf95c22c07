import com.sun.source.tree.ArrayAccessTree;
import com.sun.source.tree.AssignmentTree;
import com.sun.source.tree.BinaryTree;
import com.sun.source.tree.BlockTree;
import com.sun.source.tree.ClassTree;
import com.sun.source.tree.CompilationUnitTree;
import com.sun.source.tree.CompoundAssignmentTree;
import com.sun.source.tree.DoWhileLoopTree;
import com.sun.source.tree.EnhancedForLoopTree;
import com.sun.source.tree.ExpressionTree;
import com.sun.source.tree.ForLoopTree;
import com.sun.source.tree.IdentifierTree;
import com.sun.source.tree.LambdaExpressionTree;
import com.sun.source.tree.MemberReferenceTree;
import com.sun.source.tree.MethodInvocationTree;
import com.sun.source.tree.MethodTree;
import com.sun.source.tree.NewArrayTree;
import com.sun.source.tree.NewClassTree;
import com.sun.source.tree.SynchronizedTree;
import com.sun.source.tree.ThrowTree;
import com.sun.source.tree.Tree;
import com.sun.source.tree.TryTree;
import com.sun.source.tree.TypeCastTree;
import com.sun.source.tree.VariableTree;
import com.sun.source.tree.WhileLoopTree;
import com.sun.source.util.JavacTask;
import com.sun.source.util.TreePath;
import com.sun.source.util.TreePathScanner;
import com.sun.source.util.Trees;
import java.io.IOException;
import java.nio.file.Path;
import java.util.ArrayList;
import java.util.LinkedHashMap;
import java.util.LinkedHashSet;
import java.util.List;
import java.util.Map;
import java.util.Set;
import javax.lang.model.element.Element;
import javax.lang.model.element.ElementKind;
import javax.lang.model.element.Modifier;
import javax.lang.model.element.VariableElement;
import javax.lang.model.type.ArrayType;
import javax.lang.model.type.TypeKind;
import javax.lang.model.type.TypeMirror;
import javax.tools.JavaCompiler;
import javax.tools.StandardJavaFileManager;
import javax.tools.ToolProvider;

/**
 * The class keeps to the rules of ../shared/LANGUAGE.md that can be told from its text; each fault bears the rule's number.
 * What the class does without now is a fault too, even if a rule leaves it: so whoever brings it looks at the rule first.
 */
public final class FormTest extends TreePathScanner<Void, Void> {
    private static final String PROGRAM = "src/main/java/Barnacle.java";
    private static final Set<String> EXCEPTIONS =
            Set.of("IllegalArgumentException", "IllegalStateException", "IndexOutOfBoundsException");
    /** The methods that look at an index before they use it, with the constructor that fills its rows up to their length. */
    private static final Set<String> ROW_METHODS = Set.of("at", "put", "treeOf", "<init>");
    private static final int MOST_PARAMETERS = 7;
    private static final int MOST_LINES = 60;
    private static final int MOST_CALLS_DEEP = 8;
    private static final int MOST_CLASSES = 12;
    private static final int MOST_FIELDS = 20;

    private final CompilationUnitTree unit;
    private final Trees trees;
    private final List<String> faults = new ArrayList<>();
    private final Map<Element, Set<Element>> calls = new LinkedHashMap<>();
    private int classes = 0;
    private int methods = 0;

    private FormTest(CompilationUnitTree unit, Trees trees) {
        this.unit = unit;
        this.trees = trees;
    }

    public static void main(String[] args) throws IOException {
        JavaCompiler compiler = ToolProvider.getSystemJavaCompiler();
        try (StandardJavaFileManager files = compiler.getStandardFileManager(null, null, null)) {
            Path program = Path.of(args.length > 0 ? args[0] : PROGRAM);
            JavacTask task = (JavacTask) compiler.getTask(null, files, null, List.of("-proc:none"), null,
                    files.getJavaFileObjects(program));
            CompilationUnitTree unit = task.parse().iterator().next();
            task.analyze();
            FormTest test = new FormTest(unit, Trees.instance(task));
            test.scan(unit, null);
            test.whole();
            test.end();
        }
    }

    private void end() {
        faults.forEach(System.out::println);
        System.out.println("FormTest: " + methods + " methods in " + classes + " classes, "
                + (faults.isEmpty() ? "all as the rules say" : faults.size() + " faults"));
        if (!faults.isEmpty()) {
            System.exit(1);
        }
    }

    private void fault(int rule, String text) {
        TreePath here = getCurrentPath();
        String line = here == null ? "" : ", line " + lineOf(start(here.getLeaf()));
        faults.add("rule " + rule + line + ": " + text);
    }

    private long start(Tree tree) {
        return trees.getSourcePositions().getStartPosition(unit, tree);
    }

    private long lineOf(long position) {
        return unit.getLineMap().getLineNumber(Math.max(0, position));
    }

    private Element element(Tree tree) {
        return trees.getElement(TreePath.getPath(unit, tree));
    }

    private TypeMirror type(Tree tree) {
        return trees.getTypeMirror(TreePath.getPath(unit, tree));
    }

    /** The method, or the field with its initialiser, that holds what is looked at. */
    private Tree holder() {
        for (TreePath path = getCurrentPath().getParentPath(); path != null; path = path.getParentPath()) {
            boolean inClass = path.getParentPath() != null && path.getParentPath().getLeaf() instanceof ClassTree;
            if (inClass && (path.getLeaf() instanceof MethodTree || path.getLeaf() instanceof VariableTree)) {
                return path.getLeaf();
            }
        }
        return null;
    }

    private String holderName() {
        return holder() instanceof MethodTree method ? method.getName().toString() : "";
    }

    // ---- the file, its classes, methods and fields

    private void whole() {
        if (unit.getPackageName() != null || !unit.getImports().isEmpty() || unit.getTypeDecls().size() != 1) {
            fault(1, "the file has a package line, an import, or more than one class at the top");
        }
        if (classes > MOST_CLASSES) {
            fault(11, "there are " + classes + " classes");
        }
        for (Element method : calls.keySet()) {
            int deep = callsDeep(method, new LinkedHashSet<>());
            if (deep > MOST_CALLS_DEEP) {
                fault(11, "calls go " + deep + " deep from " + method);
            }
        }
    }

    private int callsDeep(Element method, Set<Element> open) {
        if (!open.add(method)) {
            fault(8, "is a recursion: " + method);
            return 0;
        }
        int deepest = 0;
        for (Element called : calls.getOrDefault(method, Set.of())) {
            deepest = Math.max(deepest, callsDeep(called, open));
        }
        open.remove(method);
        return deepest + 1;
    }

    @Override
    public Void visitClass(ClassTree tree, Void nothing) {
        classes++;
        boolean inside = getCurrentPath().getParentPath().getLeaf() instanceof ClassTree;
        Set<Modifier> modifiers = tree.getModifiers().getFlags();
        if (inside && !modifiers.contains(Modifier.STATIC)
                || inside && (modifiers.contains(Modifier.PUBLIC) || modifiers.contains(Modifier.PROTECTED))) {
            fault(1, "a class inside is not static, or is public or protected: " + tree.getSimpleName());
        }
        if (!inside && getCurrentPath().getParentPath().getLeaf() != unit) {
            fault(2, "is a local class: " + tree.getSimpleName());
        }
        int fields = 0;
        for (Tree member : tree.getMembers()) {
            if (member instanceof VariableTree field) {
                fields += field.getModifiers().getFlags().contains(Modifier.STATIC) ? 0 : 1;
                checkStatic(field);
            } else if (member instanceof BlockTree) {
                fault(5, "there is an initialiser block in " + tree.getSimpleName());
            }
        }
        if (fields > MOST_FIELDS) {
            fault(11, tree.getSimpleName() + " has " + fields + " fields");
        }
        return super.visitClass(tree, nothing);
    }

    private void checkStatic(VariableTree field) {
        Set<Modifier> modifiers = field.getModifiers().getFlags();
        if (!modifiers.contains(Modifier.STATIC)) {
            return;
        }
        String type = field.getType().toString();
        boolean row = Set.of("int[]", "long[]", "char[]", "byte[]").contains(type);
        boolean written = row ? field.getInitializer() instanceof NewArrayTree
                : ((VariableElement) element(field)).getConstantValue() != null;
        if (!modifiers.contains(Modifier.FINAL) || !written) {
            fault(5, "is static, and not final and a constant or a row that is written out: " + field.getName());
        }
    }

    @Override
    public Void visitMethod(MethodTree tree, Void nothing) {
        calls.putIfAbsent(element(tree), new LinkedHashSet<>());
        long end = trees.getSourcePositions().getEndPosition(unit, tree);
        long lines = lineOf(end) - lineOf(start(tree)) + 1;
        methods++;
        if (tree.getParameters().size() > MOST_PARAMETERS || lines > MOST_LINES) {
            fault(11, tree.getName() + " has more than 7 parameters or 60 lines");
        }
        if (Set.of("equals", "hashCode", "toString", "finalize").contains(tree.getName().toString())) {
            fault(6, "is a method of Object: " + tree.getName());
        }
        return super.visitMethod(tree, nothing);
    }

    @Override
    public Void visitVariable(VariableTree tree, Void nothing) {
        TypeMirror kind = type(tree);
        TypeMirror part = kind.getKind() == TypeKind.ARRAY ? ((ArrayType) kind).getComponentType() : kind;
        if (part.getKind() == TypeKind.DECLARED && !part.toString().startsWith("Barnacle.")) {
            fault(3, "is of a type of the library: " + tree.getName());
        } else if (part.getKind() == TypeKind.ARRAY) {
            fault(3, "is an array of more than one dimension: " + tree.getName());
        }
        return super.visitVariable(tree, nothing);
    }

    // ---- calls, and what is made

    @Override
    public Void visitMethodInvocation(MethodInvocationTree tree, Void nothing) {
        Element called = element(tree.getMethodSelect());
        String owner = called.getEnclosingElement().toString();
        boolean own = owner.equals("Barnacle") || owner.startsWith("Barnacle.");
        boolean implicit = called.getKind() == ElementKind.CONSTRUCTOR;
        String name = called.getSimpleName().toString();
        boolean lesserOrGreater = owner.equals("java.lang.Math") && Set.of("min", "max").contains(name);
        if (!own && !implicit && !lesserOrGreater) {
            fault(4, "is of the library: " + called);
        }
        if (own && holder() instanceof MethodTree method) {
            calls.computeIfAbsent(element(method), made -> new LinkedHashSet<>()).add(called);
        }
        if (name.equals("put") && tree.getArguments().get(0) instanceof IdentifierTree row
                && element(row).getModifiers().contains(Modifier.STATIC)) {
            fault(5, "a row that is a constant is changed: " + row);
        }
        return super.visitMethodInvocation(tree, nothing);
    }

    @Override
    public Void visitNewClass(NewClassTree tree, Void nothing) {
        String made = tree.getIdentifier().toString();
        boolean thrown = getCurrentPath().getParentPath().getLeaf() instanceof ThrowTree;
        if (tree.getClassBody() != null || thrown != EXCEPTIONS.contains(made)) {
            fault(6, "is an anonymous class, or an exception that is not thrown, or one not of the document: " + made);
        }
        if (!thrown && holder() instanceof MethodTree && !holderName().equals("<init>")) {
            fault(12, "an object is made by a call: " + made);
        }
        return super.visitNewClass(tree, nothing);
    }

    @Override
    public Void visitNewArray(NewArrayTree tree, Void nothing) {
        if (holder() instanceof MethodTree && !holderName().equals("<init>")) {
            fault(12, "an array is made by a call");
        }
        for (ExpressionTree length : tree.getDimensions()) {
            boolean constant = length instanceof IdentifierTree && element(length) instanceof VariableElement named
                    && named.getConstantValue() instanceof Integer;
            if (!constant || tree.getDimensions().size() != 1) {
                fault(7, "the length of an array is not a constant, or there is more than one");
            }
        }
        return super.visitNewArray(tree, nothing);
    }

    @Override
    public Void visitThrow(ThrowTree tree, Void nothing) {
        boolean literal = tree.getExpression() instanceof NewClassTree made && made.getArguments().stream()
                .allMatch(text -> text.getKind() == Tree.Kind.STRING_LITERAL);
        if (!literal || holderName().equals("<init>")) {
            fault(6, "is not a new exception with a written text, or stands in a constructor");
        }
        return super.visitThrow(tree, nothing);
    }

    // ---- loops

    @Override
    public Void visitForLoop(ForLoopTree tree, Void nothing) {
        if (tree.getCondition() == null || tree.getUpdate().size() != 1 || tree.getInitializer().size() != 1) {
            fault(9, "is a for without a counter, a bound and a step");
        }
        return super.visitForLoop(tree, nothing);
    }

    /** The one while of the class counts its rank down to 0. */
    @Override
    public Void visitWhileLoop(WhileLoopTree tree, Void nothing) {
        if (!holderName().equals("insert")) {
            fault(9, "is a while whose end this test does not know");
        }
        return super.visitWhileLoop(tree, nothing);
    }

    @Override
    public Void visitDoWhileLoop(DoWhileLoopTree tree, Void nothing) {
        fault(9, "is a do whose end this test does not know");
        return super.visitDoWhileLoop(tree, nothing);
    }

    @Override
    public Void visitEnhancedForLoop(EnhancedForLoopTree tree, Void nothing) {
        if (type(tree.getExpression()).getKind() != TypeKind.ARRAY) {
            fault(12, "is a loop with an iterator");
        }
        return super.visitEnhancedForLoop(tree, nothing);
    }

    // ---- what the machine could throw at, and what the class does without

    @Override
    public Void visitArrayAccess(ArrayAccessTree tree, Void nothing) {
        if (!ROW_METHODS.contains(holderName())) {
            fault(7, "an index is used outside of at, put and treeOf");
        }
        return super.visitArrayAccess(tree, nothing);
    }

    @Override
    public Void visitBinary(BinaryTree tree, Void nothing) {
        boolean divides = tree.getKind() == Tree.Kind.DIVIDE || tree.getKind() == Tree.Kind.REMAINDER;
        if (divides && !isSafeDivisor(tree.getRightOperand())) {
            fault(7, "a divisor is neither a constant nor looked at before, as far as this test knows: " + tree);
        }
        if (type(tree).getKind() == TypeKind.DECLARED) {
            fault(10, "texts are joined by +");
        }
        return super.visitBinary(tree, nothing);
    }

    /** The three divisors that are no constants, each looked at by its method before. */
    private boolean isSafeDivisor(ExpressionTree divisor) {
        boolean constant = divisor instanceof IdentifierTree && element(divisor) instanceof VariableElement named
                && named.getConstantValue() instanceof Integer number && number != 0;
        return constant || Set.of("pairResult second", "below n", "meanSize (double)grove.count")
                .contains(holderName() + " " + divisor);
    }

    @Override
    public Void visitCompoundAssignment(CompoundAssignmentTree tree, Void nothing) {
        if (tree.getKind() != Tree.Kind.PLUS_ASSIGNMENT && tree.getKind() != Tree.Kind.MINUS_ASSIGNMENT) {
            fault(7, "is neither += nor -=: " + tree);
        }
        return super.visitCompoundAssignment(tree, nothing);
    }

    @Override
    public Void visitAssignment(AssignmentTree tree, Void nothing) {
        Element changed = element(tree.getVariable());
        if (changed != null && changed.getKind() == ElementKind.FIELD && changed.getModifiers().contains(Modifier.STATIC)) {
            fault(5, "a static field is changed: " + changed);
        }
        return super.visitAssignment(tree, nothing);
    }

    @Override
    public Void visitTypeCast(TypeCastTree tree, Void nothing) {
        if (!type(tree).getKind().isPrimitive()) {
            fault(6, "is a cast among classes: " + tree);
        }
        return super.visitTypeCast(tree, nothing);
    }

    @Override
    public Void visitTry(TryTree tree, Void nothing) {
        fault(6, "is a try");
        return super.visitTry(tree, nothing);
    }

    @Override
    public Void visitLambdaExpression(LambdaExpressionTree tree, Void nothing) {
        fault(2, "is a lambda");
        return super.visitLambdaExpression(tree, nothing);
    }

    @Override
    public Void visitMemberReference(MemberReferenceTree tree, Void nothing) {
        fault(2, "is a method reference");
        return super.visitMemberReference(tree, nothing);
    }

    @Override
    public Void visitSynchronized(SynchronizedTree tree, Void nothing) {
        fault(6, "is synchronized");
        return super.visitSynchronized(tree, nothing);
    }
}
