import com.sun.source.tree.*;
import com.sun.source.util.JavacTask;
import com.sun.source.util.TreePath;
import com.sun.source.util.TreePathScanner;
import com.sun.source.util.Trees;
import java.io.IOException;
import java.nio.file.Path;
import java.util.HashMap;
import java.util.HashSet;
import java.util.List;
import java.util.Map;
import java.util.Set;
import javax.lang.model.element.Element;
import javax.lang.model.element.ElementKind;
import javax.lang.model.element.ExecutableElement;
import javax.lang.model.element.Modifier;
import javax.lang.model.element.TypeElement;
import javax.lang.model.type.ArrayType;
import javax.lang.model.type.TypeKind;
import javax.lang.model.type.TypeMirror;
import javax.tools.JavaCompiler;
import javax.tools.StandardJavaFileManager;
import javax.tools.ToolProvider;

/**
 * The rules 2 to 13 of LANGUAGE.md, as far as the compiler's tree of HailCellar.java shows them. Some are held more
 * narrowly than they are told, as the class needs no more: no call makes an object, no method calls itself, none casts.
 */
public final class LanguageTest extends TreePathScanner<Void, Void> {
    private static final Due DUE = new Due();
    private static final Path SOURCE = Path.of("src/main/java/HailCellar.java");
    private static final Set<String> LIBRARY = Set.of("java.lang.Math.min", "java.lang.Math.max", "java.lang.System.arraycopy",
            "java.lang.String.length", "java.lang.String.charAt");
    private static final int CLASSES_MOST = 12, FIELDS_MOST = 20, PARAMETERS_MOST = 7, LINES_MOST = 60, CALLS_DEEP_MOST = 8;

    private final Trees trees;
    private final CompilationUnitTree file;
    private final Map<Element, Set<Element>> calls = new HashMap<>();
    private Element method;
    private int classes;

    private LanguageTest(Trees trees, CompilationUnitTree file) {
        this.trees = trees;
        this.file = file;
    }

    private long line(Tree tree) {
        return file.getLineMap().getLineNumber(trees.getSourcePositions().getStartPosition(file, tree));
    }

    private void rule(int n, String what, Tree tree, boolean holds) {
        DUE.hold("rule " + n + ", line " + line(tree) + ": " + what, holds);
    }

    private void none(int n, String what, Tree tree) {
        rule(n, "no " + what, tree, false);
    }

    private static boolean isOwn(Element e) {
        Element top = e;
        while (top.getEnclosingElement().getKind() != ElementKind.PACKAGE) {
            top = top.getEnclosingElement();
        }
        return top.getSimpleName().contentEquals("HailCellar");
    }

    @Override
    public Void visitClass(ClassTree tree, Void p) {
        classes++;
        TypeElement element = (TypeElement) trees.getElement(getCurrentPath());
        boolean inside = element.getEnclosingElement().getKind() == ElementKind.CLASS;
        rule(2, "static, if it is inside", tree, element.getNestingKind().isNested() == inside
                && (!inside || element.getModifiers().contains(Modifier.STATIC)));
        rule(1, "private or package-visible, if it is inside", tree, inside != element.getModifiers().contains(Modifier.PUBLIC));
        int fields = 0;
        for (Element e : element.getEnclosedElements()) {
            boolean isField = e.getKind() == ElementKind.FIELD;
            fields += isField && !e.getModifiers().contains(Modifier.STATIC) ? 1 : 0;
            boolean isStatic = isField && e.getModifiers().contains(Modifier.STATIC);
            rule(5, "static " + e + " is a final constant", tree, !isStatic || e.getModifiers().contains(Modifier.FINAL) && isNumber(e.asType()));
        }
        rule(11, "some twenty fields at most", tree, fields <= FIELDS_MOST);
        return super.visitClass(tree, p);
    }

    private static boolean isNumber(TypeMirror type) {
        return type.getKind().isPrimitive();
    }

    private boolean isAllowed(TypeMirror type) {
        switch (type.getKind()) {
            case ARRAY: return isNumber(((ArrayType) type).getComponentType());
            case DECLARED: return isOwn(((javax.lang.model.type.DeclaredType) type).asElement()) || type.toString().equals("java.lang.String");
            case DOUBLE: case FLOAT: return false;
            default: return isNumber(type) || type.getKind() == TypeKind.VOID;
        }
    }

    @Override
    public Void visitVariable(VariableTree tree, Void p) {
        rule(3, "type of " + tree.getName(), tree, isAllowed(trees.getTypeMirror(getCurrentPath())));
        return super.visitVariable(tree, p);
    }

    @Override
    public Void visitMethod(MethodTree tree, Void p) {
        ExecutableElement element = (ExecutableElement) trees.getElement(getCurrentPath());
        method = element;
        calls.putIfAbsent(method, new HashSet<>());
        rule(3, "type that " + tree.getName() + " answers", tree, isAllowed(element.getReturnType()));
        rule(11, "seven parameters at most", tree, tree.getParameters().size() <= PARAMETERS_MOST);
        long from = line(tree);
        long to = file.getLineMap().getLineNumber(trees.getSourcePositions().getEndPosition(file, tree));
        rule(11, "some sixty lines at most", tree, to - from < LINES_MOST);
        super.visitMethod(tree, p);
        method = null;
        return null;
    }

    @Override
    public Void visitMethodInvocation(MethodInvocationTree tree, Void p) {
        Element called = trees.getElement(new TreePath(getCurrentPath(), tree.getMethodSelect()));
        boolean isSuper = called.getKind() == ElementKind.CONSTRUCTOR;
        if (!isOwn(called) && !isSuper) {
            String name = called.getEnclosingElement() + "." + called.getSimpleName();
            rule(4, name + " is of the library that is allowed", tree, LIBRARY.contains(name));
        }
        if (method != null && !isSuper) {
            calls.get(method).add(called);
        }
        return super.visitMethodInvocation(tree, p);
    }

    private boolean atTheStart() {
        return method == null || method.getKind() == ElementKind.CONSTRUCTOR;
    }

    @Override
    public Void visitNewClass(NewClassTree tree, Void p) {
        rule(2, "no anonymous class", tree, tree.getClassBody() == null);
        rule(12, "objects are made by constructors alone", tree, atTheStart());
        return super.visitNewClass(tree, p);
    }

    @Override
    public Void visitNewArray(NewArrayTree tree, Void p) {
        rule(12, "arrays are made by constructors alone", tree, atTheStart());
        return super.visitNewArray(tree, p);
    }

    @Override
    public Void visitBinary(BinaryTree tree, Void p) {
        boolean isText = trees.getTypeMirror(getCurrentPath()).toString().equals("java.lang.String");
        rule(10, "no joining of texts by +", tree, !isText);
        boolean divides = tree.getKind() == Tree.Kind.DIVIDE || tree.getKind() == Tree.Kind.REMAINDER;
        rule(7, "a divisor that is a constant, or looked at before", tree, !divides || isConstant(tree.getRightOperand()) || isLookedAt(tree));
        return super.visitBinary(tree, p);
    }

    private boolean isConstant(ExpressionTree divisor) {
        return divisor.getKind() == Tree.Kind.INT_LITERAL || divisor.getKind() == Tree.Kind.LONG_LITERAL
                || divisor.toString().endsWith("STONE_PRICE");
    }

    /** Behind a loop's or an if's condition that names the divisor and 0. */
    private boolean isLookedAt(BinaryTree tree) {
        String divisor = tree.getRightOperand().toString();
        Set<String> looks = Set.of(divisor + " != 0", divisor + " > 0");
        for (TreePath path = getCurrentPath(); path != null; path = path.getParentPath()) {
            Tree around = path.getLeaf();
            ExpressionTree condition = around instanceof ForLoopTree ? ((ForLoopTree) around).getCondition()
                    : around instanceof IfTree ? ((IfTree) around).getCondition() : null;
            if (condition != null && looks.stream().anyMatch(condition.toString()::contains)) {
                return true;
            }
        }
        return false;
    }

    @Override
    public Void visitForLoop(ForLoopTree tree, Void p) {
        rule(9, "a loop has an end", tree, tree.getCondition() != null);
        return super.visitForLoop(tree, p);
    }

    @Override
    public Void visitWhileLoop(WhileLoopTree tree, Void p) {
        rule(9, "a while counts against a bound", tree, tree.getCondition().toString().contains("next < length"));
        return super.visitWhileLoop(tree, p);
    }

    @Override
    public Void visitLambdaExpression(LambdaExpressionTree tree, Void p) {
        none(2, "lambda", tree);
        return super.visitLambdaExpression(tree, p);
    }

    @Override
    public Void visitMemberReference(MemberReferenceTree tree, Void p) {
        none(2, "method reference", tree);
        return super.visitMemberReference(tree, p);
    }

    @Override
    public Void visitTypeCast(TypeCastTree tree, Void p) {
        none(6, "cast", tree);
        return super.visitTypeCast(tree, p);
    }

    @Override
    public Void visitThrow(ThrowTree tree, Void p) {
        none(6, "throw", tree);
        return super.visitThrow(tree, p);
    }

    @Override
    public Void visitTry(TryTree tree, Void p) {
        none(6, "try", tree);
        return super.visitTry(tree, p);
    }

    @Override
    public Void visitSynchronized(SynchronizedTree tree, Void p) {
        none(6, "synchronized", tree);
        return super.visitSynchronized(tree, p);
    }

    @Override
    public Void visitAssert(AssertTree tree, Void p) {
        none(6, "assert", tree);
        return super.visitAssert(tree, p);
    }

    @Override
    public Void visitAnnotation(AnnotationTree tree, Void p) {
        none(6, "annotation", tree);
        return super.visitAnnotation(tree, p);
    }

    @Override
    public Void visitImport(ImportTree tree, Void p) {
        none(4, "import", tree);
        return super.visitImport(tree, p);
    }

    @Override
    public Void visitSwitchExpression(SwitchExpressionTree tree, Void p) {
        none(6, "switch expression", tree);
        return super.visitSwitchExpression(tree, p);
    }

    /** The calls that stand open at once, at most; a method that calls itself would never come to an end here. */
    private int deep(Element from, Set<Element> open) {
        DUE.hold("rule 8: " + from + " does not call itself", !open.contains(from));
        if (open.contains(from)) {
            return 0;
        }
        open.add(from);
        int most = 0;
        for (Element to : calls.getOrDefault(from, Set.of())) {
            most = Math.max(most, deep(to, open));
        }
        open.remove(from);
        return most + 1;
    }

    private void whole() {
        DUE.hold("rule 11: some twelve classes at most", classes <= CLASSES_MOST);
        for (Element one : calls.keySet()) {
            DUE.hold("rule 11: calls go eight deep at most from " + one, deep(one, new HashSet<>()) <= CALLS_DEEP_MOST);
        }
        boolean packageLine = file.getPackage() != null;
        DUE.hold("one file without a package line, one class", !packageLine && file.getTypeDecls().size() == 1);
    }

    public static void main(String[] args) throws IOException {
        JavaCompiler compiler = ToolProvider.getSystemJavaCompiler();
        try (StandardJavaFileManager files = compiler.getStandardFileManager(null, null, null)) {
            JavacTask task = (JavacTask) compiler.getTask(null, files, null, List.of("-proc:none"), null, files.getJavaFileObjects(SOURCE));
            CompilationUnitTree file = task.parse().iterator().next();
            task.analyze();
            LanguageTest test = new LanguageTest(Trees.instance(task), file);
            test.scan(file, null);
            test.whole();
        }
        DUE.end("LanguageTest");
    }
}
