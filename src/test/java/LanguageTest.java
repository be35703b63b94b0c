import com.sun.source.tree.AnnotationTree;
import com.sun.source.tree.ArrayAccessTree;
import com.sun.source.tree.AssertTree;
import com.sun.source.tree.AssignmentTree;
import com.sun.source.tree.BinaryTree;
import com.sun.source.tree.BlockTree;
import com.sun.source.tree.ClassTree;
import com.sun.source.tree.CompilationUnitTree;
import com.sun.source.tree.CompoundAssignmentTree;
import com.sun.source.tree.EnhancedForLoopTree;
import com.sun.source.tree.ExpressionTree;
import com.sun.source.tree.ForLoopTree;
import com.sun.source.tree.IdentifierTree;
import com.sun.source.tree.ImportTree;
import com.sun.source.tree.LambdaExpressionTree;
import com.sun.source.tree.LiteralTree;
import com.sun.source.tree.MemberReferenceTree;
import com.sun.source.tree.MethodInvocationTree;
import com.sun.source.tree.MethodTree;
import com.sun.source.tree.NewClassTree;
import com.sun.source.tree.SynchronizedTree;
import com.sun.source.tree.ThrowTree;
import com.sun.source.tree.Tree;
import com.sun.source.tree.TryTree;
import com.sun.source.tree.TypeCastTree;
import com.sun.source.tree.UnaryTree;
import com.sun.source.tree.VariableTree;
import com.sun.source.tree.WhileLoopTree;
import com.sun.source.util.JavacTask;
import com.sun.source.util.TreePath;
import com.sun.source.util.TreePathScanner;
import com.sun.source.util.Trees;
import java.io.IOException;
import java.nio.file.Files;
import java.nio.file.Path;
import java.util.ArrayList;
import java.util.HashMap;
import java.util.HashSet;
import java.util.List;
import java.util.Map;
import java.util.Set;
import java.util.TreeSet;
import javax.lang.model.element.Element;
import javax.lang.model.element.ElementKind;
import javax.lang.model.element.ExecutableElement;
import javax.lang.model.element.Modifier;
import javax.lang.model.element.TypeElement;
import javax.lang.model.element.VariableElement;
import javax.lang.model.type.ArrayType;
import javax.lang.model.type.DeclaredType;
import javax.lang.model.type.TypeKind;
import javax.lang.model.type.TypeMirror;
import javax.tools.StandardJavaFileManager;
import javax.tools.ToolProvider;

/**
 * The rules of LANGUAGE.md that can be looked up in the source, as the compiler understands it. Of rule 7 (nothing is
 * used before it is looked at) only the divisors are looked up here. The argument is the source file.
 */
public final class LanguageTest extends TreePathScanner<Void, Void> {
    private static final Check CHECK = new Check("LanguageTest");
    private static final Set<String> LIBRARY = Set.of("java.lang.String.length", "java.lang.String.charAt",
            "java.lang.String.isEmpty", "java.lang.String.substring", "java.lang.String.toCharArray",
            "java.lang.StringBuilder.append", "java.lang.StringBuilder.charAt", "java.lang.StringBuilder.setCharAt",
            "java.lang.StringBuilder.setLength", "java.lang.StringBuilder.deleteCharAt", "java.lang.StringBuilder.reverse",
            "java.lang.StringBuilder.length", "java.lang.StringBuilder.toString", "java.util.ArrayList.add",
            "java.util.ArrayList.get", "java.util.ArrayList.set", "java.util.ArrayList.remove", "java.util.ArrayList.size",
            "java.util.ArrayList.isEmpty", "java.util.ArrayList.clear", "java.lang.Math.max", "java.lang.Math.min",
            "java.lang.Math.abs", "java.lang.Math.floorMod", "java.lang.Math.floorDiv", "java.lang.Integer.bitCount",
            "java.lang.System.arraycopy");
    private static final Set<String> MADE = Set.of("java.lang.StringBuilder", "java.util.ArrayList");
    private static final Set<String> EXCEPTIONS = Set.of("java.lang.IllegalStateException",
            "java.lang.IllegalArgumentException", "java.lang.IndexOutOfBoundsException");
    /** Reading a QUESTION: its brackets keep the depth low. */
    private static final Set<String> RECURSIVE = Set.of("Question.readOr", "Question.readAnd", "Question.readUnit",
            "Question.readPart");

    private final Trees trees;
    private final CompilationUnitTree unit;
    private final Map<String, Set<String>> calls = new HashMap<>();
    private final Set<String> faceNames = new HashSet<>();
    private int classes = 0;

    private LanguageTest(Trees trees, CompilationUnitTree unit) {
        this.trees = trees;
        this.unit = unit;
    }

    public static void main(String[] args) throws IOException {
        Path source = Path.of(args.length > 0 ? args[0] : "src/main/java/Searchcluster.java");
        CHECK.is("signs 1 to 127", Files.readString(source).chars().allMatch(sign -> sign > 0 && sign < 128), true);
        var compiler = ToolProvider.getSystemJavaCompiler();
        try (StandardJavaFileManager files = compiler.getStandardFileManager(null, null, null)) {
            JavacTask task = (JavacTask) compiler.getTask(null, files, null, List.of("-proc:none"), null,
                    files.getJavaFileObjects(source));
            CompilationUnitTree unit = task.parse().iterator().next();
            task.analyze();
            new LanguageTest(Trees.instance(task), unit).look();
        }
        CHECK.end();
    }

    private void look() {
        faceOfTheModel();
        CHECK.is("no package", unit.getPackageName() == null, true);
        CHECK.is("one class in the file", unit.getTypeDecls().size(), 1);
        scan(unit, null);
        CHECK.is("twelve classes at most", classes <= 12, true);
        recursion();
        depth();
    }

    /** The model has the face of the document, and nothing else that is public. */
    private void faceOfTheModel() {
        for (var method : Model.class.getMethods()) {
            if (method.getDeclaringClass() == Model.class) {
                faceNames.add(method.getName());
            }
        }
        Set<String> names = new HashSet<>();
        for (var method : Searchcluster.class.getMethods()) {
            if (method.getDeclaringClass() == Searchcluster.class) {
                names.add(method.getName());
            }
        }
        CHECK.is("the face", names, faceNames);
    }

    private Element elementOf(Tree tree) {
        return trees.getElement(new TreePath(getCurrentPath(), tree));
    }

    private TypeMirror typeOf(Tree tree) {
        return trees.getTypeMirror(new TreePath(getCurrentPath(), tree));
    }

    private void rule(int number, String what, boolean isKept, Tree tree) {
        long line = unit.getLineMap().getLineNumber(trees.getSourcePositions().getStartPosition(unit, tree));
        CHECK.is("rule " + number + ", " + what + " in line " + line, isKept, true);
    }

    private String enclosing() {
        for (TreePath path = getCurrentPath(); path != null; path = path.getParentPath()) {
            if (path.getLeaf() instanceof MethodTree) {
                return nameOf((ExecutableElement) trees.getElement(path));
            }
        }
        return "";
    }

    private static String nameOf(ExecutableElement method) {
        return method.getEnclosingElement().getSimpleName() + "." + method.getSimpleName();
    }

    private static boolean isOwn(Element element) {
        for (Element around = element; around != null; around = around.getEnclosingElement()) {
            if (around.getSimpleName().contentEquals("Searchcluster")) {
                return true;
            }
        }
        return false;
    }

    private static boolean isText(TypeMirror type) {
        return type != null && (type.toString().equals("java.lang.String") || type.toString().equals("java.lang.Integer"));
    }

    // ---- classes, fields, methods (rules 1, 2, 3, 5, 11)

    @Override
    public Void visitImport(ImportTree tree, Void none) {
        String name = tree.getQualifiedIdentifier().toString();
        rule(4, "import of " + name, Set.of("java.util.ArrayList", "java.util.List").contains(name), tree);
        return null;
    }

    @Override
    public Void visitClass(ClassTree tree, Void none) {
        classes++;
        Set<Modifier> modifiers = tree.getModifiers().getFlags();
        String name = tree.getSimpleName().toString();
        int fields = 0;
        for (Tree member : tree.getMembers()) {
            if (member instanceof VariableTree field) {
                boolean isStatic = field.getModifiers().getFlags().contains(Modifier.STATIC);
                fields += isStatic ? 0 : 1;
                rule(5, "static and not final: " + field.getName(), !isStatic || isConstant(field), field);
            }
            rule(5, "a static block", !(member instanceof BlockTree), member);
        }
        rule(11, "fields of " + name, fields <= 20, tree);
        if (name.equals("Searchcluster")) {
            rule(1, "public and final", modifiers.equals(Set.of(Modifier.PUBLIC, Modifier.FINAL)), tree);
        } else {
            rule(2, name + " is private and static", modifiers.contains(Modifier.PRIVATE) && modifiers.contains(Modifier.STATIC),
                    tree);
            rule(2, name + " is a class of the kinds that are let", tree.getKind() == Tree.Kind.CLASS
                    && tree.getExtendsClause() == null && tree.getImplementsClause().isEmpty(), tree);
        }
        return super.visitClass(tree, none);
    }

    private static boolean isConstant(VariableTree field) {
        boolean isArray = field.getType().getKind() == Tree.Kind.ARRAY_TYPE;
        boolean isWritten = field.getInitializer() != null
                && (!isArray || field.getInitializer().getKind() == Tree.Kind.NEW_ARRAY);
        return field.getModifiers().getFlags().contains(Modifier.FINAL) && isWritten;
    }

    @Override
    public Void visitVariable(VariableTree tree, Void none) {
        Element element = trees.getElement(getCurrentPath());
        rule(3, "the type of " + tree.getName(), isLet(element.asType(), 0), tree);
        if (element.getKind() == ElementKind.FIELD && element.getEnclosingElement().getSimpleName().contentEquals("Searchcluster")) {
            rule(1, tree.getName() + " is private", element.getModifiers().contains(Modifier.PRIVATE), tree);
        }
        return super.visitVariable(tree, none);
    }

    /** No double and no float is used, so that they need not be looked at. */
    private static boolean isLet(TypeMirror type, int dimensions) {
        if (type.getKind() == TypeKind.ARRAY) {
            TypeMirror inner = ((ArrayType) type).getComponentType();
            return dimensions < 2 && isLet(inner, dimensions + 1) && (dimensions == 0 || inner.getKind().isPrimitive());
        }
        if (type.getKind() != TypeKind.DECLARED) {
            return type.getKind() == TypeKind.VOID || type.getKind().isPrimitive() && type.getKind() != TypeKind.DOUBLE
                    && type.getKind() != TypeKind.FLOAT;
        }
        DeclaredType declared = (DeclaredType) type;
        String name = ((TypeElement) declared.asElement()).getQualifiedName().toString();
        if (Set.of("java.util.ArrayList", "java.util.List").contains(name)) {
            TypeMirror inner = declared.getTypeArguments().get(0);
            return inner.toString().equals("java.lang.Integer") || isOwn(((DeclaredType) inner).asElement());
        }
        return Set.of("java.lang.String", "java.lang.StringBuilder").contains(name) || isOwn(declared.asElement());
    }

    @Override
    public Void visitMethod(MethodTree tree, Void none) {
        ExecutableElement method = (ExecutableElement) trees.getElement(getCurrentPath());
        String name = tree.getName().toString();
        boolean isOfFace = method.getEnclosingElement().getSimpleName().contentEquals("Searchcluster");
        boolean isMade = method.getKind() == ElementKind.CONSTRUCTOR;
        if (isOfFace && !isMade) {
            rule(1, name + " is public or private", method.getModifiers().contains(Modifier.PUBLIC)
                    ? faceNames.contains(name) : method.getModifiers().contains(Modifier.PRIVATE) && !faceNames.contains(name), tree);
        }
        rule(1, name + " bears the name of a public one", isOfFace || !faceNames.contains(name), tree);
        rule(6, name + " is none of every object's own", !Set.of("equals", "hashCode", "toString", "finalize").contains(name), tree);
        rule(3, "what " + name + " answers", isMade || isLet(method.getReturnType(), 0), tree);
        rule(11, "parameters of " + name, tree.getParameters().size() <= 7, tree);
        long from = unit.getLineMap().getLineNumber(Math.max(0, trees.getSourcePositions().getStartPosition(unit, tree)));
        long end = trees.getSourcePositions().getEndPosition(unit, tree);
        rule(11, "lines of " + name, end < 0 || unit.getLineMap().getLineNumber(end) - from < 60, tree);
        calls.computeIfAbsent(nameOf(method), key -> new TreeSet<>());
        return super.visitMethod(tree, none);
    }

    @Override
    public Void visitAnnotation(AnnotationTree tree, Void none) {
        rule(2, "an annotation", false, tree);
        return null;
    }

    // ---- what is called and made (rules 4, 6, 8, 12)

    @Override
    public Void visitMethodInvocation(MethodInvocationTree tree, Void none) {
        ExecutableElement method = (ExecutableElement) elementOf(tree);
        String owner = ((TypeElement) method.getEnclosingElement()).getQualifiedName().toString();
        if (isOwn(method)) {
            calls.computeIfAbsent(enclosing(), key -> new TreeSet<>()).add(nameOf(method));
        } else if (!(owner.equals("java.lang.Object") && method.getSimpleName().contentEquals("<init>"))) {
            String name = owner.replace("java.lang.AbstractStringBuilder", "java.lang.StringBuilder") + "." + method.getSimpleName();
            rule(4, name, LIBRARY.contains(name), tree);
            if (name.equals("java.lang.StringBuilder.append")) {
                String type = method.getParameters().get(0).asType().toString();
                rule(4, "append of " + type, Set.of("char", "int", "java.lang.String").contains(type), tree);
            }
        }
        return super.visitMethodInvocation(tree, none);
    }

    @Override
    public Void visitNewClass(NewClassTree tree, Void none) {
        TypeElement made = (TypeElement) ((DeclaredType) typeOf(tree)).asElement();
        String name = made.getQualifiedName().toString();
        boolean isThrown = getCurrentPath().getParentPath().getLeaf() instanceof ThrowTree;
        rule(4, "new " + name, isOwn(made) || (isThrown ? EXCEPTIONS : MADE).contains(name), tree);
        rule(2, "an anonymous class", tree.getClassBody() == null, tree);
        if (isOwn(made)) {
            calls.computeIfAbsent(enclosing(), key -> new TreeSet<>()).add(made.getSimpleName() + ".<init>");
        }
        return super.visitNewClass(tree, none);
    }

    @Override
    public Void visitThrow(ThrowTree tree, Void none) {
        boolean isPlain = tree.getExpression() instanceof NewClassTree made && (made.getArguments().isEmpty()
                || made.getArguments().size() == 1 && made.getArguments().get(0) instanceof LiteralTree);
        rule(6, "throw new E() or throw new E(\"a written text\")", isPlain, tree);
        rule(6, "a throw in a constructor", !enclosing().endsWith("<init>"), tree);
        return super.visitThrow(tree, none);
    }

    private void recursion() {
        for (String method : calls.keySet()) {
            Set<String> reached = new HashSet<>();
            List<String> open = new ArrayList<>(calls.get(method));
            while (!open.isEmpty()) {
                String next = open.remove(open.size() - 1);
                if (reached.add(next)) {
                    open.addAll(calls.getOrDefault(next, Set.of()));
                }
            }
            CHECK.is("rule 8, " + method + " calls itself", reached.contains(method), RECURSIVE.contains(method));
        }
    }

    private void depth() {
        Map<String, Integer> known = new HashMap<>();
        for (String method : calls.keySet()) {
            int depth = depthOf(method, known);
            CHECK.is("rule 11, eight deep at most, " + method + " is " + depth, depth <= 8, true);
        }
    }

    /** With the method itself; those that call one another are no matter. */
    private int depthOf(String method, Map<String, Integer> known) {
        if (known.containsKey(method)) {
            return known.get(method);
        }
        known.put(method, 0);
        int deepest = 0;
        for (String called : calls.getOrDefault(method, Set.of())) {
            deepest = Math.max(deepest, depthOf(called, known));
        }
        int depth = deepest + (RECURSIVE.contains(method) ? 0 : 1);
        known.put(method, depth);
        return depth;
    }

    // ---- statements and expressions (rules 2, 5, 6, 7, 9, 10)

    @Override
    public Void visitLambdaExpression(LambdaExpressionTree tree, Void none) {
        rule(2, "a lambda", false, tree);
        return null;
    }

    @Override
    public Void visitMemberReference(MemberReferenceTree tree, Void none) {
        rule(2, "a method reference", false, tree);
        return null;
    }

    @Override
    public Void visitTry(TryTree tree, Void none) {
        rule(6, "a try, as no call needs one", false, tree);
        return null;
    }

    @Override
    public Void visitSynchronized(SynchronizedTree tree, Void none) {
        rule(6, "synchronized", false, tree);
        return null;
    }

    @Override
    public Void visitAssert(AssertTree tree, Void none) {
        rule(6, "assert", false, tree);
        return null;
    }

    @Override
    public Void visitWhileLoop(WhileLoopTree tree, Void none) {
        rule(9, "a loop that always goes on", !tree.getCondition().toString().equals("(true)"), tree);
        return super.visitWhileLoop(tree, none);
    }

    @Override
    public Void visitForLoop(ForLoopTree tree, Void none) {
        rule(9, "a loop without a condition", tree.getCondition() != null && !tree.getCondition().toString().equals("true"), tree);
        return super.visitForLoop(tree, none);
    }

    @Override
    public Void visitEnhancedForLoop(EnhancedForLoopTree tree, Void none) {
        rule(12, "a for over what is no array", typeOf(tree.getExpression()).getKind() == TypeKind.ARRAY, tree);
        return super.visitEnhancedForLoop(tree, none);
    }

    @Override
    public Void visitTypeCast(TypeCastTree tree, Void none) {
        rule(6, "a cast of a reference", typeOf(tree.getType()).getKind().isPrimitive(), tree);
        return super.visitTypeCast(tree, none);
    }

    @Override
    public Void visitBinary(BinaryTree tree, Void none) {
        TypeMirror left = typeOf(tree.getLeftOperand());
        TypeMirror right = typeOf(tree.getRightOperand());
        switch (tree.getKind()) {
            case PLUS -> rule(10, "texts joined by +", !isText(left) && !isText(right), tree);
            case EQUAL_TO, NOT_EQUAL_TO -> rule(6, "texts compared by ==", !isText(left) && !isText(right), tree);
            case DIVIDE, REMAINDER -> divisor(tree.getRightOperand());
            default -> { }
        }
        return super.visitBinary(tree, none);
    }

    /** A constant, or a parameter at whose sign the method looks first, or a loop. */
    private void divisor(ExpressionTree tree) {
        Element element = tree instanceof IdentifierTree ? elementOf(tree) : null;
        Object constant = tree instanceof LiteralTree literal ? literal.getValue()
                : element instanceof VariableElement variable ? variable.getConstantValue() : null;
        boolean isLookedAt = false;
        for (TreePath path = getCurrentPath(); path != null; path = path.getParentPath()) {
            isLookedAt |= path.getLeaf() instanceof MethodTree method
                    && method.getBody().getStatements().get(0).toString().startsWith("if (" + tree + " <= 0)")
                    || path.getLeaf() instanceof ForLoopTree loop && loop.getCondition().toString().equals(tree + " > 0");
        }
        rule(7, "the divisor " + tree, constant instanceof Integer number ? number > 0 : isLookedAt, tree);
    }

    @Override
    public Void visitCompoundAssignment(CompoundAssignmentTree tree, Void none) {
        rule(10, "texts joined by +=", !isText(typeOf(tree.getVariable())), tree);
        rule(7, "a division", !Set.of(Tree.Kind.REMAINDER_ASSIGNMENT).contains(tree.getKind())
                && (tree.getKind() != Tree.Kind.DIVIDE_ASSIGNMENT || tree.getExpression() instanceof LiteralTree), tree);
        changes(tree.getVariable());
        return super.visitCompoundAssignment(tree, none);
    }

    @Override
    public Void visitAssignment(AssignmentTree tree, Void none) {
        changes(tree.getVariable());
        return super.visitAssignment(tree, none);
    }

    @Override
    public Void visitUnary(UnaryTree tree, Void none) {
        if (tree.getKind() != Tree.Kind.UNARY_MINUS && tree.getKind() != Tree.Kind.LOGICAL_COMPLEMENT) {
            changes(tree.getExpression());
        }
        return super.visitUnary(tree, none);
    }

    /** An array that is a constant is never changed. */
    private void changes(Tree target) {
        if (target instanceof ArrayAccessTree access && access.getExpression() instanceof IdentifierTree) {
            Element array = elementOf(access.getExpression());
            rule(5, "a change of " + array, !array.getModifiers().contains(Modifier.STATIC), target);
        }
    }
}
