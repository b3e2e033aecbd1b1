import com.sun.source.tree.*;
import com.sun.source.util.JavacTask;
import com.sun.source.util.TreePathScanner;
import com.sun.source.util.Trees;
import java.io.IOException;
import java.nio.file.Path;
import java.util.HashMap;
import java.util.HashSet;
import java.util.List;
import java.util.Map;
import java.util.Set;
import javax.lang.model.element.Element;
import javax.lang.model.element.ElementKind;
import javax.lang.model.element.ExecutableElement;
import javax.lang.model.element.Modifier;
import javax.lang.model.type.ArrayType;
import javax.lang.model.type.TypeKind;
import javax.lang.model.type.TypeMirror;
import javax.tools.JavaCompiler;
import javax.tools.StandardJavaFileManager;
import javax.tools.ToolProvider;

/** LANGUAGE.md, rule by rule, looked up in the tree that the compiler makes of the class. */
public final class RulesTest extends TreePathScanner<Void, Void> {
    private static final Set<Tree.Kind> NEVER = Set.of(Tree.Kind.THROW, Tree.Kind.TRY, Tree.Kind.CATCH, Tree.Kind.SYNCHRONIZED,
        Tree.Kind.ASSERT, Tree.Kind.LAMBDA_EXPRESSION, Tree.Kind.MEMBER_REFERENCE, Tree.Kind.ANNOTATION, Tree.Kind.IMPORT,
        Tree.Kind.PACKAGE, Tree.Kind.FLOAT_LITERAL, Tree.Kind.DOUBLE_LITERAL);
    private static final Set<String> LIBRARY = Set.of("java.lang.String.length", "java.lang.String.charAt", "java.lang.System.arraycopy",
        "java.lang.Math.min", "java.lang.Math.max", "java.lang.Math.abs", "java.lang.Integer.bitCount");
    private static final int DEEPEST = 8, PARAMETERS = 7, CLASSES = 12, FIELDS = 20;

    private final Check check = new Check();
    private final Trees trees;
    private final Map<Element, Set<Element>> calls = new HashMap<>();
    private final Map<Element, Integer> fields = new HashMap<>();
    private int classes = 0;

    private RulesTest(Trees trees) {
        this.trees = trees;
    }

    public static void main(String[] args) throws IOException {
        JavaCompiler compiler = ToolProvider.getSystemJavaCompiler();
        StandardJavaFileManager files = compiler.getStandardFileManager(null, null, null);
        JavacTask task = (JavacTask) compiler.getTask(null, files, null, List.of("--release", "17", "-proc:none"), null,
            files.getJavaFileObjects(Path.of("src/main/java/DoorsBook.java")));
        Iterable<? extends CompilationUnitTree> units = task.parse();
        task.analyze();
        RulesTest rules = new RulesTest(Trees.instance(task));
        for (CompilationUnitTree unit : units) rules.scan(unit, null);
        rules.judge();
    }

    /** What can be told when all is seen. */
    private void judge() {
        check.holds("rule 11: some twelve classes: " + classes, classes > 1 && classes <= CLASSES);
        for (Map.Entry<Element, Integer> e : fields.entrySet()) {
            check.holds("rule 11: fields of " + e.getKey() + ": " + e.getValue(), e.getValue() <= FIELDS);
        }
        int deepest = 0;
        for (Element method : calls.keySet()) {
            int depth = depth(method, new HashSet<>());
            check.holds("rule 11: calls go eight deep: " + depth + " from " + method, depth <= DEEPEST);
            deepest = Math.max(deepest, depth);
        }
        check.holds("calls were seen: " + deepest, deepest > 2);
        check.end();
    }

    /** How many of the class's own methods stand open at once, this one being the first of them. */
    private int depth(Element method, Set<Element> open) {
        check.holds("rule 8: " + method + " does not call itself", open.add(method));
        if (open.size() > 100) return open.size();
        int below = 0;
        for (Element called : calls.getOrDefault(method, Set.of())) {
            if (!open.contains(called)) below = Math.max(below, depth(called, open));
            else check.holds("rule 8: " + called + " is not called from below itself", false);
        }
        open.remove(method);
        return below + 1;
    }

    private Element element() {
        return trees.getElement(getCurrentPath());
    }

    private Element methodAround() {
        for (var path = getCurrentPath(); path != null; path = path.getParentPath()) {
            if (path.getLeaf() instanceof MethodTree) return trees.getElement(path);
        }
        return null;
    }

    private boolean isOwn(Element e) {
        while (e != null && e.getKind() != ElementKind.PACKAGE) {
            if (e.getSimpleName().contentEquals("DoorsBook")) return true;
            e = e.getEnclosingElement();
        }
        return false;
    }

    @Override
    public Void scan(Tree tree, Void v) {
        if (tree != null) check.holds("rules 2, 3, 4, 6: no " + tree.getKind() + ": " + tree, !NEVER.contains(tree.getKind()));
        return super.scan(tree, v);
    }

    @Override
    public Void visitClass(ClassTree tree, Void v) {
        classes++;
        Element e = element();
        boolean isOuter = e.getEnclosingElement().getKind() == ElementKind.PACKAGE;
        Set<Modifier> is = e.getModifiers();
        if (isOuter) check.holds("rule 1: public and final", is.contains(Modifier.PUBLIC) && is.contains(Modifier.FINAL));
        else check.holds("rule 2: " + e + " is private, static and no local class", is.contains(Modifier.PRIVATE) && is.contains(Modifier.STATIC)
            && e.getEnclosingElement().getSimpleName().contentEquals("DoorsBook"));
        for (Tree member : tree.getMembers()) check.holds("rule 5: no block in " + e, member.getKind() != Tree.Kind.BLOCK);
        return super.visitClass(tree, v);
    }

    @Override
    public Void visitMethod(MethodTree tree, Void v) {
        ExecutableElement e = (ExecutableElement) element();
        calls.putIfAbsent(e, new HashSet<>());
        check.holds("rule 11: parameters of " + e, e.getParameters().size() <= PARAMETERS);
        check.holds("rule 3: what " + e + " answers", isAllowed(e.getReturnType()));
        check.holds("rule 6: " + e + " is none of Object's", !Set.of("equals", "hashCode", "toString").contains(e.getSimpleName().toString()));
        return super.visitMethod(tree, v);
    }

    @Override
    public Void visitVariable(VariableTree tree, Void v) {
        Element e = element();
        check.holds("rule 3: the type of " + e + ": " + e.asType(), isAllowed(e.asType()));
        if (e.getKind() == ElementKind.FIELD) field(e, tree);
        return super.visitVariable(tree, v);
    }

    private void field(Element e, VariableTree tree) {
        if (!e.getModifiers().contains(Modifier.STATIC)) {
            fields.merge(e.getEnclosingElement(), 1, Integer::sum);
            return;
        }
        check.holds("rule 5: " + e + " is final", e.getModifiers().contains(Modifier.FINAL));
        boolean isWrittenOut = tree.getInitializer() instanceof NewArrayTree made && made.getInitializers() != null;
        check.holds("rule 5: " + e + " is a constant or written out", isWrittenOut || e.asType().getKind() == TypeKind.INT);
    }

    private boolean isAllowed(TypeMirror type) {
        switch (type.getKind()) {
            case INT: case LONG: case SHORT: case BYTE: case CHAR: case BOOLEAN: case VOID: return true;
            case ARRAY: return isAllowedArray((ArrayType) type);
            default: return type.toString().equals("java.lang.String") || type.toString().startsWith("DoorsBook");
        }
    }

    private boolean isAllowedArray(ArrayType type) {
        TypeMirror of = type.getComponentType();
        if (of.getKind() == TypeKind.ARRAY) return ((ArrayType) of).getComponentType().getKind() == TypeKind.INT;
        return of.getKind().isPrimitive();
    }

    @Override
    public Void visitMethodInvocation(MethodInvocationTree tree, Void v) {
        Element called = element();
        String name = called.getEnclosingElement() + "." + called.getSimpleName();
        if (isOwn(called)) calls.computeIfAbsent(methodAround(), k -> new HashSet<>()).add(called);
        else if (!called.getSimpleName().contentEquals("<init>")) check.holds("rule 4: " + name, LIBRARY.contains(name));
        return super.visitMethodInvocation(tree, v);
    }

    @Override
    public Void visitNewClass(NewClassTree tree, Void v) {
        check.holds("rule 2: no body behind new", tree.getClassBody() == null);
        madeWithTheObject(tree);
        return super.visitNewClass(tree, v);
    }

    @Override
    public Void visitNewArray(NewArrayTree tree, Void v) {
        madeWithTheObject(tree);
        return super.visitNewArray(tree, v);
    }

    private void madeWithTheObject(Tree tree) {
        Element around = methodAround();
        check.holds("rule 12: made in a constructor: " + tree, around == null || around.getKind() == ElementKind.CONSTRUCTOR);
    }

    @Override
    public Void visitWhileLoop(WhileLoopTree tree, Void v) {
        ended(tree.getCondition());
        return super.visitWhileLoop(tree, v);
    }

    @Override
    public Void visitDoWhileLoop(DoWhileLoopTree tree, Void v) {
        ended(tree.getCondition());
        return super.visitDoWhileLoop(tree, v);
    }

    @Override
    public Void visitForLoop(ForLoopTree tree, Void v) {
        ended(tree.getCondition());
        return super.visitForLoop(tree, v);
    }

    /** A loop's end stands in its head: something is compared there. */
    private void ended(ExpressionTree condition) {
        String text = condition == null ? "" : condition.toString();
        check.holds("rule 9: the end of a loop: " + text, text.contains("<") || text.contains(">"));
    }

    @Override
    public Void visitBinary(BinaryTree tree, Void v) {
        boolean isOfTexts = isText(tree.getLeftOperand()) || isText(tree.getRightOperand());
        check.holds("rules 6 and 10: texts are neither joined nor compared by a sign: " + tree, !isOfTexts);
        return super.visitBinary(tree, v);
    }

    private boolean isText(ExpressionTree operand) {
        TypeMirror type = trees.getTypeMirror(new com.sun.source.util.TreePath(getCurrentPath(), operand));
        return type != null && type.toString().equals("java.lang.String");
    }

    @Override
    public Void visitTypeCast(TypeCastTree tree, Void v) {
        check.holds("rule 6: casts are of numbers: " + tree, trees.getTypeMirror(getCurrentPath()).getKind().isPrimitive());
        return super.visitTypeCast(tree, v);
    }
}
