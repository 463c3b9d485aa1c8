import com.sun.source.tree.AssertTree;
import com.sun.source.tree.BinaryTree;
import com.sun.source.tree.BlockTree;
import com.sun.source.tree.ClassTree;
import com.sun.source.tree.CompilationUnitTree;
import com.sun.source.tree.CompoundAssignmentTree;
import com.sun.source.tree.DoWhileLoopTree;
import com.sun.source.tree.EnhancedForLoopTree;
import com.sun.source.tree.ExpressionTree;
import com.sun.source.tree.ForLoopTree;
import com.sun.source.tree.ImportTree;
import com.sun.source.tree.LambdaExpressionTree;
import com.sun.source.tree.LineMap;
import com.sun.source.tree.MemberReferenceTree;
import com.sun.source.tree.MethodInvocationTree;
import com.sun.source.tree.MethodTree;
import com.sun.source.tree.NewArrayTree;
import com.sun.source.tree.NewClassTree;
import com.sun.source.tree.SynchronizedTree;
import com.sun.source.tree.ThrowTree;
import com.sun.source.tree.Tree;
import com.sun.source.tree.TryTree;
import com.sun.source.tree.TypeCastTree;
import com.sun.source.tree.VariableTree;
import com.sun.source.tree.WhileLoopTree;
import com.sun.source.util.JavacTask;
import com.sun.source.util.SourcePositions;
import com.sun.source.util.TreePath;
import com.sun.source.util.TreePathScanner;
import com.sun.source.util.Trees;
import java.io.IOException;
import java.net.URI;
import java.util.ArrayList;
import java.util.HashMap;
import java.util.LinkedHashSet;
import java.util.List;
import java.util.Map;
import java.util.Set;
import javax.lang.model.element.Element;
import javax.lang.model.element.ElementKind;
import javax.lang.model.element.ExecutableElement;
import javax.lang.model.element.Modifier;
import javax.lang.model.element.PackageElement;
import javax.lang.model.element.TypeElement;
import javax.lang.model.element.VariableElement;
import javax.lang.model.type.ArrayType;
import javax.lang.model.type.DeclaredType;
import javax.lang.model.type.TypeKind;
import javax.lang.model.type.TypeMirror;
import javax.tools.JavaCompiler;
import javax.tools.JavaFileObject;
import javax.tools.SimpleJavaFileObject;
import javax.tools.ToolProvider;

/**
 * The rules of LANGUAGE.md that can be seen in a text of the class, as the compiler reads it. What
 * the rules allow and the class has no need of (texts, lists, doubles, recursion) is a breach here.
 */
final class Rules extends TreePathScanner<Void, Void> {
    private static final int MOST_LINES = 60;
    private static final int MOST_PARAMETERS = 7;
    private static final int MOST_CLASSES = 12;
    private static final int MOST_FIELDS = 20;
    private static final int DEEPEST = 8;

    private static final class Text extends SimpleJavaFileObject {
        private final String text;

        Text(String text) {
            super(URI.create("string:///AgedLog.java"), Kind.SOURCE);
            this.text = text;
        }

        @Override
        public CharSequence getCharContent(boolean ignored) {
            return text;
        }
    }

    private final List<String> breaches = new ArrayList<>();
    private final Map<Element, Set<Element>> calls = new HashMap<>();
    private final Map<Element, Integer> depths = new HashMap<>();
    private final Set<String> face = new LinkedHashSet<>();
    private final Trees trees;
    private final CompilationUnitTree unit;
    private int classes = 0;

    private Rules(Trees trees, CompilationUnitTree unit) {
        this.trees = trees;
        this.unit = unit;
    }

    /** Each breach begins with the number of its rule. */
    static List<String> breachesOf(String text) throws IOException {
        JavaCompiler compiler = ToolProvider.getSystemJavaCompiler();
        List<JavaFileObject> files = List.of(new Text(text));
        JavacTask task = (JavacTask) compiler.getTask(null, null, x -> { }, List.of("-proc:none"), null, files);
        CompilationUnitTree unit = task.parse().iterator().next();
        task.analyze();
        Rules rules = new Rules(Trees.instance(task), unit);
        rules.readFace();
        rules.scan(new TreePath(unit), null);
        rules.readCalls();
        return rules.breaches;
    }

    private void breach(int rule, String what, Tree tree) {
        SourcePositions positions = trees.getSourcePositions();
        LineMap lines = unit.getLineMap();
        breaches.add(rule + ": line " + lines.getLineNumber(positions.getStartPosition(unit, tree)) + ": " + what);
    }

    private void readFace() {
        for (Tree type : unit.getTypeDecls()) {
            if (type instanceof ClassTree) {
                for (Tree member : ((ClassTree) type).getMembers()) {
                    if (member instanceof MethodTree && isPublic((MethodTree) member)) {
                        face.add(((MethodTree) member).getName().toString());
                    }
                }
            }
        }
    }

    private static boolean isPublic(MethodTree method) {
        return method.getModifiers().getFlags().contains(Modifier.PUBLIC);
    }

    private Element element() {
        return trees.getElement(getCurrentPath());
    }

    private boolean isOwn(Element element) {
        Element outer = element;
        while (outer != null && !outer.toString().equals("AgedLog")) {
            outer = outer.getEnclosingElement();
        }
        return outer != null;
    }

    @Override
    public Void visitImport(ImportTree tree, Void none) {
        if (tree.isStatic() || !tree.getQualifiedIdentifier().toString().equals("java.util.Arrays")) {
            breach(4, "import " + tree.getQualifiedIdentifier(), tree);
        }
        return super.visitImport(tree, none);
    }

    @Override
    public Void visitCompilationUnit(CompilationUnitTree tree, Void none) {
        if (tree.getPackage() != null) {
            breach(1, "a package", tree);
        }
        if (tree.getTypeDecls().size() != 1) {
            breach(1, "more than one class at the top", tree);
        }
        return super.visitCompilationUnit(tree, none);
    }

    @Override
    public Void visitClass(ClassTree tree, Void none) {
        classes++;
        if (classes > MOST_CLASSES) {
            breach(11, "the file has more than twelve classes", tree);
        }
        Set<Modifier> flags = tree.getModifiers().getFlags();
        Tree parent = getCurrentPath().getParentPath().getLeaf();
        if (parent instanceof CompilationUnitTree) {
            if (!flags.contains(Modifier.PUBLIC) || !flags.contains(Modifier.FINAL)) {
                breach(1, "the class is not public and final", tree);
            }
        } else if (!(parent instanceof ClassTree)) {
            breach(2, "a local or anonymous class", tree);
        } else {
            if (!flags.contains(Modifier.STATIC)) {
                breach(2, "an inner class that isn't static", tree);
            }
            if (flags.contains(Modifier.PUBLIC) || flags.contains(Modifier.PROTECTED)) {
                breach(1, "an inner class that is public or protected", tree);
            }
        }
        readMembers(tree);
        return super.visitClass(tree, none);
    }

    private void readMembers(ClassTree tree) {
        int fields = 0;
        boolean outer = getCurrentPath().getParentPath().getLeaf() instanceof CompilationUnitTree;
        for (Tree member : tree.getMembers()) {
            if (member instanceof BlockTree) {
                breach(5, "an initialiser block", member);
            } else if (member instanceof VariableTree) {
                fields += readField((VariableTree) member, outer);
            }
        }
        if (fields > MOST_FIELDS) {
            breach(11, "more than twenty fields", tree);
        }
    }

    /** How much it adds to the fields beside the constants. */
    private int readField(VariableTree field, boolean outer) {
        Set<Modifier> flags = field.getModifiers().getFlags();
        VariableElement element = (VariableElement) trees.getElement(new TreePath(getCurrentPath(), field));
        if (outer && !flags.contains(Modifier.PRIVATE)) {
            breach(1, field.getName() + " is not private", field);
        }
        if (!flags.contains(Modifier.STATIC)) {
            return 1;
        }
        if (!flags.contains(Modifier.FINAL) || element.getConstantValue() == null) {
            breach(5, field.getName() + " is static, and no constant", field);
        }
        return 0;
    }

    @Override
    public Void visitMethod(MethodTree tree, Void none) {
        ExecutableElement method = (ExecutableElement) element();
        Set<Modifier> flags = method.getModifiers();
        boolean outer = method.getEnclosingElement().getEnclosingElement() instanceof PackageElement;
        boolean made = method.getKind() == ElementKind.CONSTRUCTOR;
        calls.computeIfAbsent(method, x -> new LinkedHashSet<>());
        if (outer && !flags.contains(Modifier.PUBLIC) && !flags.contains(Modifier.PRIVATE)) {
            breach(1, method + " is neither public nor private", tree);
        }
        if (!made && !(outer && flags.contains(Modifier.PUBLIC)) && face.contains(method.getSimpleName().toString())) {
            breach(1, method + " bears the name of a public one", tree);
        }
        if (tree.getParameters().size() > MOST_PARAMETERS) {
            breach(11, method + " takes more than seven", tree);
        }
        SourcePositions positions = trees.getSourcePositions();
        LineMap lines = unit.getLineMap();
        long first = lines.getLineNumber(positions.getStartPosition(unit, tree));
        long end = positions.getEndPosition(unit, tree);
        // The compiler's own constructor has no end.
        if (end >= 0 && lines.getLineNumber(end) - first + 1 > MOST_LINES) {
            breach(11, method + " is long", tree);
        }
        if (!isAllowed(method.getReturnType())) {
            breach(3, method + " answers " + method.getReturnType(), tree);
        }
        if (!method.getThrownTypes().isEmpty()) {
            breach(6, method + " throws", tree);
        }
        return super.visitMethod(tree, none);
    }

    @Override
    public Void visitVariable(VariableTree tree, Void none) {
        TypeMirror type = trees.getTypeMirror(getCurrentPath());
        if (type == null || !isAllowed(type)) {
            breach(3, tree.getName() + " is of the type " + type, tree);
        }
        return super.visitVariable(tree, none);
    }

    private boolean isAllowed(TypeMirror type) {
        if (type.getKind() == TypeKind.VOID) {
            return true;
        }
        TypeMirror of = type.getKind() == TypeKind.ARRAY ? ((ArrayType) type).getComponentType() : type;
        if (of.getKind().isPrimitive()) {
            return of.getKind() != TypeKind.DOUBLE && of.getKind() != TypeKind.FLOAT;
        }
        return of.getKind() == TypeKind.DECLARED && isOwn(((DeclaredType) of).asElement());
    }

    @Override
    public Void visitMethodInvocation(MethodInvocationTree tree, Void none) {
        Element called = trees.getElement(new TreePath(getCurrentPath(), tree.getMethodSelect()));
        TreePath caller = getCurrentPath();
        while (caller != null && !(caller.getLeaf() instanceof MethodTree)) {
            caller = caller.getParentPath();
        }
        if (called != null && caller != null) {
            calls.computeIfAbsent(trees.getElement(caller), x -> new LinkedHashSet<>()).add(called);
        }
        if (called == null) {
            breach(4, "nobody knows " + tree, tree);
        } else if (!isOwn(called) && !isOfTheLibrary((ExecutableElement) called)) {
            breach(4, called.getEnclosingElement() + "." + called, tree);
        }
        return super.visitMethodInvocation(tree, none);
    }

    private boolean isOfTheLibrary(ExecutableElement called) {
        String owner = ((TypeElement) called.getEnclosingElement()).getQualifiedName().toString();
        String name = called.getSimpleName().toString();
        switch (owner) {
            case "java.lang.Object":
                return called.getKind() == ElementKind.CONSTRUCTOR;
            case "java.lang.System":
                return name.equals("arraycopy");
            case "java.util.Arrays":
                return name.equals("fill") && isRowOfNumbers(called.getParameters().get(0).asType());
            case "java.lang.Math":
            case "java.lang.Integer":
            case "java.lang.Long":
                return isOverNumbers(called) && !name.endsWith("Exact") && !name.equals("random");
            default:
                return false;
        }
    }

    private static boolean isOverNumbers(ExecutableElement called) {
        boolean is = called.getModifiers().contains(Modifier.STATIC) && isNumber(called.getReturnType());
        for (VariableElement parameter : called.getParameters()) {
            is = is && isNumber(parameter.asType());
        }
        return is;
    }

    private static boolean isNumber(TypeMirror type) {
        return type.getKind() == TypeKind.INT || type.getKind() == TypeKind.LONG;
    }

    private static boolean isRowOfNumbers(TypeMirror type) {
        TypeKind of = ((ArrayType) type).getComponentType().getKind();
        return of.isPrimitive() && of != TypeKind.BOOLEAN;
    }

    @Override
    public Void visitThrow(ThrowTree tree, Void none) {
        breach(6, "throw", tree);
        return super.visitThrow(tree, none);
    }

    @Override
    public Void visitTry(TryTree tree, Void none) {
        breach(6, "try", tree);
        return super.visitTry(tree, none);
    }

    @Override
    public Void visitSynchronized(SynchronizedTree tree, Void none) {
        breach(6, "synchronized", tree);
        return super.visitSynchronized(tree, none);
    }

    @Override
    public Void visitAssert(AssertTree tree, Void none) {
        breach(6, "assert", tree);
        return super.visitAssert(tree, none);
    }

    @Override
    public Void visitTypeCast(TypeCastTree tree, Void none) {
        if (!typeOf(tree.getType()).getKind().isPrimitive()) {
            breach(6, "a cast to " + tree.getType(), tree);
        }
        return super.visitTypeCast(tree, none);
    }

    private TypeMirror typeOf(Tree tree) {
        return trees.getTypeMirror(new TreePath(getCurrentPath(), tree));
    }

    /** A divisor has to be looked at before it divides: the class has only divisors that are constants. */
    @Override
    public Void visitBinary(BinaryTree tree, Void none) {
        boolean divides = tree.getKind() == Tree.Kind.DIVIDE || tree.getKind() == Tree.Kind.REMAINDER;
        if (divides) {
            Element divisor = trees.getElement(new TreePath(getCurrentPath(), tree.getRightOperand()));
            boolean constant = divisor instanceof VariableElement
                && ((VariableElement) divisor).getConstantValue() instanceof Integer
                && (Integer) ((VariableElement) divisor).getConstantValue() != 0;
            if (!constant) {
                breach(7, "the divisor " + tree.getRightOperand(), tree);
            }
        }
        return super.visitBinary(tree, none);
    }

    @Override
    public Void visitCompoundAssignment(CompoundAssignmentTree tree, Void none) {
        if (tree.getKind() == Tree.Kind.DIVIDE_ASSIGNMENT || tree.getKind() == Tree.Kind.REMAINDER_ASSIGNMENT) {
            breach(7, "the divisor " + tree.getExpression(), tree);
        }
        return super.visitCompoundAssignment(tree, none);
    }

    @Override
    public Void visitWhileLoop(WhileLoopTree tree, Void none) {
        readCondition(tree.getCondition(), tree);
        return super.visitWhileLoop(tree, none);
    }

    @Override
    public Void visitDoWhileLoop(DoWhileLoopTree tree, Void none) {
        readCondition(tree.getCondition(), tree);
        return super.visitDoWhileLoop(tree, none);
    }

    @Override
    public Void visitForLoop(ForLoopTree tree, Void none) {
        readCondition(tree.getCondition(), tree);
        return super.visitForLoop(tree, none);
    }

    /** The end of a loop is a number against a bound, which is to be seen in its condition. */
    private void readCondition(ExpressionTree condition, Tree loop) {
        String text = condition == null ? "" : condition.toString();
        if (!text.matches("(?s).*\\w (<|<=|>|>=) .*")) {
            breach(9, "a loop while " + text, loop);
        }
    }

    @Override
    public Void visitLambdaExpression(LambdaExpressionTree tree, Void none) {
        breach(2, "a lambda", tree);
        return super.visitLambdaExpression(tree, none);
    }

    @Override
    public Void visitMemberReference(MemberReferenceTree tree, Void none) {
        breach(2, "a method reference", tree);
        return super.visitMemberReference(tree, none);
    }

    /** All rows and objects are made with the object, so that no run of calls can fill the room. */
    @Override
    public Void visitNewArray(NewArrayTree tree, Void none) {
        readMaking(tree);
        for (ExpressionTree length : tree.getDimensions()) {
            if (!length.toString().matches("[A-Z_ *]+")) {
                breach(7, "a row of " + length, tree);
            }
        }
        return super.visitNewArray(tree, none);
    }

    @Override
    public Void visitNewClass(NewClassTree tree, Void none) {
        readMaking(tree);
        return super.visitNewClass(tree, none);
    }

    private void readMaking(Tree tree) {
        TreePath path = getCurrentPath();
        boolean inLoop = false;
        while (!(path.getLeaf() instanceof MethodTree) && !(path.getLeaf() instanceof ClassTree)) {
            inLoop = inLoop || isLoop(path.getLeaf());
            path = path.getParentPath();
        }
        boolean inMethod = path.getLeaf() instanceof MethodTree
            && trees.getElement(path).getKind() != ElementKind.CONSTRUCTOR;
        if (inLoop || inMethod) {
            breach(12, "made by a call: " + tree, tree);
        }
    }

    private static boolean isLoop(Tree tree) {
        return tree instanceof ForLoopTree || tree instanceof EnhancedForLoopTree
            || tree instanceof WhileLoopTree || tree instanceof DoWhileLoopTree;
    }

    /** "calls that are no recursion go at most eight deep", those of the library with them. */
    private void readCalls() {
        for (Element method : calls.keySet()) {
            int depth = depthOf(method, 0);
            if (depth > DEEPEST) {
                breaches.add("11: " + method + " goes " + depth + " deep");
            }
        }
    }

    private int depthOf(Element method, int above) {
        if (above > 100) {
            return above;
        }
        if (depths.containsKey(method)) {
            return depths.get(method);
        }
        int deepest = 0;
        for (Element called : calls.getOrDefault(method, Set.of())) {
            deepest = Math.max(deepest, depthOf(called, above + 1));
        }
        if (above == 0 || deepest < 100) {
            depths.put(method, deepest + 1);
        }
        return deepest + 1;
    }
}
