import com.sun.source.tree.AssertTree;
import com.sun.source.tree.BinaryTree;
import com.sun.source.tree.BlockTree;
import com.sun.source.tree.ClassTree;
import com.sun.source.tree.CompilationUnitTree;
import com.sun.source.tree.CompoundAssignmentTree;
import com.sun.source.tree.ImportTree;
import com.sun.source.tree.LambdaExpressionTree;
import com.sun.source.tree.LiteralTree;
import com.sun.source.tree.MemberReferenceTree;
import com.sun.source.tree.MethodInvocationTree;
import com.sun.source.tree.MethodTree;
import com.sun.source.tree.NewArrayTree;
import com.sun.source.tree.NewClassTree;
import com.sun.source.tree.SynchronizedTree;
import com.sun.source.tree.ThrowTree;
import com.sun.source.tree.Tree;
import com.sun.source.tree.TryTree;
import com.sun.source.tree.VariableTree;
import com.sun.source.util.JavacTask;
import com.sun.source.util.TreePath;
import com.sun.source.util.TreePathScanner;
import com.sun.source.util.Trees;
import java.nio.file.Path;
import java.util.ArrayList;
import java.util.HashMap;
import java.util.HashSet;
import java.util.List;
import java.util.Map;
import java.util.Set;
import javax.lang.model.element.Element;
import javax.lang.model.element.ElementKind;
import javax.lang.model.element.Modifier;
import javax.lang.model.element.TypeElement;
import javax.lang.model.type.TypeMirror;
import javax.tools.JavaCompiler;
import javax.tools.StandardJavaFileManager;
import javax.tools.ToolProvider;

/**
 * LANGUAGE.md, as far as the compiler's tree of the program can tell it. The program may keep to less than
 * the rules leave: what it does not use (try, lists, texts, recursion) is not told apart here, but refused.
 */
public final class LanguageTest extends TreePathScanner<Void, Void> {
    private static final Path PROGRAM = Path.of("src/main/java/NameMover.java");
    private static final Set<String> IMPORTS = Set.of("java.util.NoSuchElementException");
    private static final Set<String> LIBRARY = Set.of("java.lang.System.arraycopy", "java.lang.Math.max",
            "java.lang.Math.min");
    private static final Set<String> EXCEPTIONS = Set.of("IllegalStateException", "IllegalArgumentException",
            "IndexOutOfBoundsException", "NoSuchElementException");
    private static final Set<String> TYPES = Set.of("int", "long", "boolean", "int[]", "long[]", "boolean[]");
    private static final Set<String> NOT_OWN = Set.of("equals", "hashCode", "toString");
    private static final int MOST_LINES = 60;
    private static final int MOST_PARAMETERS = 7;
    private static final int MOST_CLASSES = 12;
    private static final int MOST_FIELDS = 20;
    private static final int MOST_DEPTH = 8;

    private final Checks checks = new Checks();
    private final Trees trees;
    private final CompilationUnitTree unit;
    private final Map<Element, Set<Element>> callsOf = new HashMap<>();
    private int classes = 0;

    private LanguageTest(Trees trees, CompilationUnitTree unit) {
        this.trees = trees;
        this.unit = unit;
    }

    public static void main(String[] args) throws Exception {
        JavaCompiler compiler = ToolProvider.getSystemJavaCompiler();
        try (StandardJavaFileManager files = compiler.getStandardFileManager(null, null, null)) {
            JavacTask task = (JavacTask) compiler.getTask(null, files, null, List.of("--release", "17", "-proc:none"), null,
                    files.getJavaFileObjects(PROGRAM));
            CompilationUnitTree unit = task.parse().iterator().next();
            task.analyze();
            LanguageTest test = new LanguageTest(Trees.instance(task), unit);
            test.scan(unit, null);
            test.wholeFile();
            test.checks.end();
        }
    }

    private void rule(int number, Tree where, String what, boolean holds) {
        long position = trees.getSourcePositions().getStartPosition(unit, where);
        checks.sentence("rule " + number + ", line " + unit.getLineMap().getLineNumber(Math.max(0, position)));
        checks.compare(what, "true", String.valueOf(holds));
    }

    private void wholeFile() {
        rule(1, unit, "there is no package line", unit.getPackage() == null);
        rule(1, unit, "there is one class beside no other", unit.getTypeDecls().size() == 1);
        rule(11, unit, "the file has at most some twelve classes", classes <= MOST_CLASSES);
        for (Element method : callsOf.keySet()) {
            int depth = depth(method, new ArrayList<>());
            rule(11, trees.getTree(method), "calls go at most eight deep from " + method, depth <= MOST_DEPTH);
        }
    }

    /** How many calls stand open at most, that of the method itself with them. */
    private int depth(Element method, List<Element> open) {
        if (open.contains(method)) {
            rule(8, trees.getTree(method), method + " does not call itself", false);
            return 0;
        }
        open.add(method);
        int deepest = 0;
        for (Element called : callsOf.getOrDefault(method, Set.of())) {
            deepest = Math.max(deepest, depth(called, open));
        }
        open.remove(open.size() - 1);
        return deepest + 1;
    }

    @Override
    public Void visitImport(ImportTree tree, Void none) {
        rule(4, tree, "the library has " + tree, IMPORTS.contains(tree.getQualifiedIdentifier().toString()));
        return super.visitImport(tree, none);
    }

    @Override
    public Void visitClass(ClassTree tree, Void none) {
        classes++;
        Set<Modifier> modifiers = tree.getModifiers().getFlags();
        if (getCurrentPath().getParentPath().getLeaf() == unit) {
            rule(1, tree, "the class is public and final", modifiers.containsAll(Set.of(Modifier.PUBLIC, Modifier.FINAL)));
        } else {
            rule(1, tree, "a class inside is static", modifiers.contains(Modifier.STATIC));
            rule(1, tree, "a class inside is not public or protected",
                    !modifiers.contains(Modifier.PUBLIC) && !modifiers.contains(Modifier.PROTECTED));
        }
        int fields = 0;
        for (Tree member : tree.getMembers()) {
            rule(5, member, "there is no block beside the methods", !(member instanceof BlockTree));
            fields += member instanceof VariableTree field && !isStatic(field) ? 1 : 0;
        }
        rule(11, tree, "a class has some twenty fields", fields <= MOST_FIELDS);
        return super.visitClass(tree, none);
    }

    private static boolean isStatic(VariableTree tree) {
        return tree.getModifiers().getFlags().contains(Modifier.STATIC);
    }

    @Override
    public Void visitVariable(VariableTree tree, Void none) {
        TypeMirror type = trees.getTypeMirror(getCurrentPath());
        rule(3, tree, "a type that is left: " + type, TYPES.contains(type.toString()) || isOwn(type.toString()));
        if (isStatic(tree)) {
            rule(5, tree, "a static field is final", tree.getModifiers().getFlags().contains(Modifier.FINAL));
            rule(5, tree, "a static field is a constant: " + type, Set.of("int", "long", "boolean").contains(type.toString()));
        }
        return super.visitVariable(tree, none);
    }

    private static boolean isOwn(String name) {
        return name.equals("NameMover") || name.startsWith("NameMover.");
    }

    @Override
    public Void visitMethod(MethodTree tree, Void none) {
        String name = tree.getName().toString();
        long first = unit.getLineMap().getLineNumber(trees.getSourcePositions().getStartPosition(unit, tree));
        long last = unit.getLineMap().getLineNumber(trees.getSourcePositions().getEndPosition(unit, tree));
        rule(11, tree, name + " is short", last - first < MOST_LINES);
        rule(11, tree, name + " takes at most seven parameters", tree.getParameters().size() <= MOST_PARAMETERS);
        rule(6, tree, name + " is none of an object's own", !NOT_OWN.contains(name));
        callsOf.putIfAbsent(trees.getElement(getCurrentPath()), new HashSet<>());
        return super.visitMethod(tree, none);
    }

    @Override
    public Void visitMethodInvocation(MethodInvocationTree tree, Void none) {
        Element called = trees.getElement(getCurrentPath());
        TypeElement owner = (TypeElement) called.getEnclosingElement();
        String told = owner.getQualifiedName() + "." + called.getSimpleName();
        boolean isSuper = called.getKind() == ElementKind.CONSTRUCTOR && told.equals("java.lang.Object.<init>");
        rule(4, tree, "a call that is left: " + told, isOwn(told) || LIBRARY.contains(told) || isSuper);
        Element caller = caller();
        if (isOwn(told) && caller != null) {
            callsOf.computeIfAbsent(caller, key -> new HashSet<>()).add(called);
        }
        return super.visitMethodInvocation(tree, none);
    }

    private TreePath methodPath() {
        TreePath path = getCurrentPath();
        while (path != null && !(path.getLeaf() instanceof MethodTree)) {
            path = path.getParentPath();
        }
        return path;
    }

    private Element caller() {
        TreePath path = methodPath();
        return path == null ? null : trees.getElement(path);
    }

    private boolean isInConstructor() {
        Element caller = caller();
        return caller != null && caller.getKind() == ElementKind.CONSTRUCTOR;
    }

    @Override
    public Void visitThrow(ThrowTree tree, Void none) {
        boolean made = tree.getExpression() instanceof NewClassTree;
        rule(6, tree, "what is thrown is made there", made);
        rule(6, tree, "no constructor throws", !isInConstructor());
        if (made) {
            NewClassTree exception = (NewClassTree) tree.getExpression();
            rule(6, tree, "an exception that is left", EXCEPTIONS.contains(exception.getIdentifier().toString()));
            rule(6, tree, "a written text", exception.getArguments().stream().allMatch(text -> text instanceof LiteralTree));
        }
        return super.visitThrow(tree, none);
    }

    /** What a call makes lives as long as the run: so none but the constructors make anything. */
    private void made(Tree tree) {
        boolean thrown = getCurrentPath().getParentPath().getLeaf() instanceof ThrowTree;
        rule(12, tree, "nothing is made by a call: " + tree, thrown || methodPath() == null || isInConstructor());
    }

    @Override
    public Void visitNewClass(NewClassTree tree, Void none) {
        made(tree);
        return super.visitNewClass(tree, none);
    }

    @Override
    public Void visitNewArray(NewArrayTree tree, Void none) {
        made(tree);
        return super.visitNewArray(tree, none);
    }

    @Override
    public Void visitLambdaExpression(LambdaExpressionTree tree, Void none) {
        rule(2, tree, "no lambda", false);
        return super.visitLambdaExpression(tree, none);
    }

    @Override
    public Void visitMemberReference(MemberReferenceTree tree, Void none) {
        rule(2, tree, "no method reference", false);
        return super.visitMemberReference(tree, none);
    }

    @Override
    public Void visitTry(TryTree tree, Void none) {
        rule(6, tree, "no try", false);
        return super.visitTry(tree, none);
    }

    @Override
    public Void visitSynchronized(SynchronizedTree tree, Void none) {
        rule(6, tree, "no synchronized", false);
        return super.visitSynchronized(tree, none);
    }

    @Override
    public Void visitAssert(AssertTree tree, Void none) {
        rule(6, tree, "no assert", false);
        return super.visitAssert(tree, none);
    }

    private void noText(Tree tree) {
        TypeMirror type = trees.getTypeMirror(getCurrentPath());
        rule(10, tree, "no texts are joined by +", !type.toString().equals("java.lang.String"));
    }

    @Override
    public Void visitBinary(BinaryTree tree, Void none) {
        noText(tree);
        rule(7, tree, "nothing is divided by what could be 0: " + tree, !divides(tree.getKind())
                || isNonZeroConstant(tree.getRightOperand()));
        return super.visitBinary(tree, none);
    }

    private static boolean divides(Tree.Kind kind) {
        return kind == Tree.Kind.DIVIDE || kind == Tree.Kind.REMAINDER;
    }

    private boolean isNonZeroConstant(Tree tree) {
        Element element = trees.getElement(new TreePath(getCurrentPath(), tree));
        Object value = tree instanceof LiteralTree literal ? literal.getValue()
                : element instanceof javax.lang.model.element.VariableElement field ? field.getConstantValue() : null;
        return value instanceof Number number && number.longValue() != 0;
    }

    @Override
    public Void visitCompoundAssignment(CompoundAssignmentTree tree, Void none) {
        noText(tree);
        rule(7, tree, "nothing is divided in place", tree.getKind() != Tree.Kind.DIVIDE_ASSIGNMENT
                && tree.getKind() != Tree.Kind.REMAINDER_ASSIGNMENT);
        return super.visitCompoundAssignment(tree, none);
    }
}
