import com.sun.source.tree.*;
import com.sun.source.util.JavacTask;
import com.sun.source.util.TreePath;
import com.sun.source.util.TreePathScanner;
import com.sun.source.util.Trees;
import java.io.IOException;
import java.net.URI;
import java.util.ArrayList;
import java.util.HashMap;
import java.util.LinkedHashSet;
import java.util.List;
import java.util.Map;
import java.util.Set;
import javax.lang.model.element.Element;
import javax.lang.model.element.ElementKind;
import javax.lang.model.element.ExecutableElement;
import javax.lang.model.element.Modifier;
import javax.lang.model.element.TypeElement;
import javax.lang.model.element.VariableElement;
import javax.lang.model.type.ArrayType;
import javax.lang.model.type.DeclaredType;
import javax.lang.model.type.TypeKind;
import javax.lang.model.type.TypeMirror;
import javax.tools.SimpleJavaFileObject;
import javax.tools.ToolProvider;

/**
 * What LANGUAGE.md asks of the program, asked of the tree that javac reads from it. Where LANGUAGE.md leaves more than the
 * program uses (lists, interfaces, catches, while), this refuses it all the same: whoever needs it tells it here first.
 */
final class LanguageRules extends TreePathScanner<Void, Void> {
    private static final Set<String> LIBRARY = Set.of("java.lang.Math.max(int,int)", "java.lang.Math.min(int,int)",
            "java.lang.Math.max(long,long)", "java.lang.Math.min(long,long)", "java.lang.Object.Object()",
            "java.lang.System.arraycopy(java.lang.Object,int,java.lang.Object,int,int)");
    private static final Set<String> EXCEPTIONS = Set.of("java.lang.IllegalStateException",
            "java.lang.IllegalArgumentException", "java.lang.IndexOutOfBoundsException", "java.lang.ArithmeticException",
            "java.lang.UnsupportedOperationException", "java.util.NoSuchElementException", "java.lang.RuntimeException");
    private static final Set<Tree.Kind> RULED_OUT = Set.of(Tree.Kind.LAMBDA_EXPRESSION, Tree.Kind.MEMBER_REFERENCE,
            Tree.Kind.TRY, Tree.Kind.SYNCHRONIZED, Tree.Kind.ASSERT, Tree.Kind.INSTANCE_OF, Tree.Kind.WHILE_LOOP,
            Tree.Kind.DO_WHILE_LOOP, Tree.Kind.ENHANCED_FOR_LOOP, Tree.Kind.INTERFACE, Tree.Kind.ENUM, Tree.Kind.RECORD,
            Tree.Kind.ANNOTATION_TYPE, Tree.Kind.ANNOTATION, Tree.Kind.SWITCH, Tree.Kind.SWITCH_EXPRESSION);

    private final Trees trees;
    private final CompilationUnitTree unit;
    private final Set<String> faults = new LinkedHashSet<>();
    private final Map<ExecutableElement, Set<ExecutableElement>> calls = new HashMap<>();
    private int classes = 0;

    private LanguageRules(Trees trees, CompilationUnitTree unit) {
        this.trees = trees;
        this.unit = unit;
    }

    /** The rules that a source breaks, a line each. */
    static Set<String> faultsOf(String source) throws IOException {
        SimpleJavaFileObject file = new SimpleJavaFileObject(URI.create("string:///RoyalTree.java"),
                javax.tools.JavaFileObject.Kind.SOURCE) {
            @Override
            public CharSequence getCharContent(boolean ignoreEncodingErrors) {
                return source;
            }
        };
        StringBuilder told = new StringBuilder();
        JavacTask task = (JavacTask) ToolProvider.getSystemJavaCompiler().getTask(null, null,
                problem -> told.append(problem), List.of("-proc:none"), null, List.of(file));
        CompilationUnitTree unit = task.parse().iterator().next();
        task.analyze();
        if (told.length() > 0) {
            throw new IllegalArgumentException(told.toString());
        }
        LanguageRules rules = new LanguageRules(Trees.instance(task), unit);
        rules.scan(new TreePath(unit), null);
        rules.askOfTheWhole(source);
        return rules.faults;
    }

    private void fault(int rule, String what, Tree at) {
        long line = unit.getLineMap().getLineNumber(trees.getSourcePositions().getStartPosition(unit, at));
        faults.add("rule " + rule + ": " + what + " (line " + line + ")");
    }

    private Element element() {
        return trees.getElement(getCurrentPath());
    }

    private Tree parent() {
        return getCurrentPath().getParentPath().getLeaf();
    }

    private static boolean isOwn(Element element) {
        Element outer = element;
        while (outer.getEnclosingElement().getKind() != ElementKind.PACKAGE) {
            outer = outer.getEnclosingElement();
        }
        return outer.getSimpleName().contentEquals("RoyalTree");
    }

    private <T extends Tree> T around(Class<T> kind) {
        TreePath path = getCurrentPath();
        while (path != null && !kind.isInstance(path.getLeaf())) {
            path = path.getParentPath();
        }
        return path == null ? null : kind.cast(path.getLeaf());
    }

    /** Whether this stands where each object comes by once: in a constructor or where a field is set at first. */
    private boolean isInTheMaking() {
        MethodTree method = around(MethodTree.class);
        return method == null || method.getReturnType() == null;
    }

    // ---- the whole

    private void askOfTheWhole(String source) {
        if (unit.getPackage() != null || unit.getTypeDecls().size() != 1) {
            fault(1, "a package or a second class", unit);
        }
        for (int i = 0; i < source.length(); i++) {
            if (source.charAt(i) > 126) {
                fault(4, "a sign past 126", unit);
            }
        }
        for (ExecutableElement from : calls.keySet()) {
            if (depthFrom(from, new ArrayList<>()) > 8) {
                fault(11, "calls more than eight deep from " + from, trees.getTree(from));
            }
        }
        if (classes > 12) {
            fault(11, "more than twelve classes", unit);
        }
    }

    private int depthFrom(ExecutableElement from, List<ExecutableElement> above) {
        List<ExecutableElement> way = new ArrayList<>(above);
        way.add(from);
        int deepest = 0;
        for (ExecutableElement to : calls.getOrDefault(from, Set.of())) {
            if (way.contains(to)) {
                askOfRecursion(from, to);
            } else {
                deepest = Math.max(deepest, depthFrom(to, way));
            }
        }
        return deepest + 1;
    }

    /** A method that calls itself is private and refuses to go deeper than an argument tells. */
    private void askOfRecursion(ExecutableElement from, ExecutableElement to) {
        MethodTree method = trees.getTree(from);
        boolean isGuarded = false;
        for (VariableElement argument : from.getParameters()) {
            String name = argument.getSimpleName().toString();
            String body = method.getBody().toString();
            isGuarded |= body.matches("(?s).*\\b" + name + " (<|>=) MOST_\\w+.*") && body.contains(name + " + 1)");
        }
        if (from != to || !from.getModifiers().contains(Modifier.PRIVATE) || !isGuarded) {
            fault(8, "a recursion without a guard in " + from, method);
        }
    }

    @Override
    public Void scan(Tree tree, Void none) {
        if (tree != null && RULED_OUT.contains(tree.getKind())) {
            fault(2, "what the program does without: " + tree.getKind(), tree);
        }
        return super.scan(tree, none);
    }

    // ---- what is declared

    @Override
    public Void visitClass(ClassTree tree, Void none) {
        classes++;
        Element here = element();
        Set<Modifier> modifiers = here.getModifiers();
        boolean isOutermost = parent() == unit;
        if (isOutermost && !(modifiers.contains(Modifier.PUBLIC) && modifiers.contains(Modifier.FINAL))) {
            fault(1, "a class that is not public and final", tree);
        }
        boolean isVisible = modifiers.contains(Modifier.PUBLIC) || modifiers.contains(Modifier.PROTECTED);
        if (!isOutermost && (isVisible || !modifiers.contains(Modifier.STATIC))) {
            fault(2, "a class inside that is not static and hidden", tree);
        }
        int fields = 0;
        for (Element member : here.getEnclosedElements()) {
            boolean isStatic = member.getModifiers().contains(Modifier.STATIC);
            fields += member.getKind() == ElementKind.FIELD && !isStatic ? 1 : 0;
            if (isOutermost) {
                askOfMember(here, member);
            }
        }
        if (fields > 20) {
            fault(11, "more than twenty fields", tree);
        }
        return super.visitClass(tree, none);
    }

    private void askOfMember(Element here, Element member) {
        boolean isHidden = member.getModifiers().contains(Modifier.PRIVATE);
        boolean isPublic = member.getModifiers().contains(Modifier.PUBLIC);
        boolean isCallable = member.getKind() == ElementKind.METHOD || member.getKind() == ElementKind.CONSTRUCTOR;
        if (!isHidden && !member.getKind().isClass() && !(isPublic && isCallable)) {
            fault(1, "a member that is not private: " + member, trees.getTree(member));
        }
        for (Element other : here.getEnclosedElements()) {
            boolean bothAreMethods = member.getKind() == ElementKind.METHOD && other.getKind() == ElementKind.METHOD;
            boolean otherIsPublic = other.getModifiers().contains(Modifier.PUBLIC);
            if (bothAreMethods && isHidden && otherIsPublic && other.getSimpleName().equals(member.getSimpleName())) {
                fault(1, "a private method of a public one's name: " + member, trees.getTree(member));
            }
        }
    }

    @Override
    public Void visitMethod(MethodTree tree, Void none) {
        if (tree.getParameters().size() > 7) {
            fault(11, "more than seven parameters", tree);
        }
        LineMap lines = unit.getLineMap();
        long first = lines.getLineNumber(trees.getSourcePositions().getStartPosition(unit, tree));
        long last = lines.getLineNumber(Math.max(0, trees.getSourcePositions().getEndPosition(unit, tree)));
        if (last - first >= 60) {
            fault(11, "a method of more than sixty lines", tree);
        }
        return super.visitMethod(tree, none);
    }

    @Override
    public Void visitVariable(VariableTree tree, Void none) {
        VariableElement here = (VariableElement) element();
        if (!isTypeOfTheLanguage(here.asType())) {
            fault(3, "the type " + here.asType(), tree);
        }
        boolean isStatic = here.getModifiers().contains(Modifier.STATIC);
        if (isStatic && (!here.getModifiers().contains(Modifier.FINAL) || here.getConstantValue() == null)) {
            fault(5, "a static field that is no constant", tree);
        }
        return super.visitVariable(tree, none);
    }

    private static boolean isTypeOfTheLanguage(TypeMirror type) {
        TypeMirror inner = type;
        int dimensions = 0;
        while (inner instanceof ArrayType) {
            inner = ((ArrayType) inner).getComponentType();
            dimensions++;
        }
        if (inner.getKind().isPrimitive()) {
            return dimensions <= 2 && !(dimensions == 2 && inner.getKind() == TypeKind.BOOLEAN);
        }
        return dimensions <= 1 && inner instanceof DeclaredType && isOwn(((DeclaredType) inner).asElement());
    }

    // ---- what is done

    @Override
    public Void visitMethodInvocation(MethodInvocationTree tree, Void none) {
        ExecutableElement called = (ExecutableElement) element();
        String name = called.getEnclosingElement() + "." + called;
        if (called.getKind() == ElementKind.CONSTRUCTOR) {
            name = "java.lang.Object.Object()";
        }
        MethodTree from = around(MethodTree.class);
        if (isOwn(called) && from != null) {
            TreePath path = TreePath.getPath(unit, from);
            calls.computeIfAbsent((ExecutableElement) trees.getElement(path), m -> new LinkedHashSet<>()).add(called);
        } else if (!LIBRARY.contains(name)) {
            fault(4, "a call of " + name, tree);
        }
        return super.visitMethodInvocation(tree, none);
    }

    @Override
    public Void visitNewClass(NewClassTree tree, Void none) {
        Element type = element().getEnclosingElement();
        if (parent() instanceof ThrowTree) {
            return super.visitNewClass(tree, none);
        }
        if (!isOwn(type)) {
            fault(4, "an object of " + type, tree);
        } else if (!isInTheMaking() || around(ForLoopTree.class) != null) {
            fault(12, "an object made by a method or in a loop", tree);
        }
        return super.visitNewClass(tree, none);
    }

    @Override
    public Void visitNewArray(NewArrayTree tree, Void none) {
        if (!isInTheMaking() || around(ForLoopTree.class) != null) {
            fault(12, "an array made by a method or in a loop", tree);
        }
        return super.visitNewArray(tree, none);
    }

    @Override
    public Void visitThrow(ThrowTree tree, Void none) {
        boolean isWritten = tree.getExpression() instanceof NewClassTree;
        if (isWritten) {
            NewClassTree made = (NewClassTree) tree.getExpression();
            isWritten = EXCEPTIONS.contains(trees.getTypeMirror(new TreePath(getCurrentPath(), made)).toString());
            for (ExpressionTree argument : made.getArguments()) {
                isWritten &= argument.getKind() == Tree.Kind.STRING_LITERAL;
            }
        }
        if (!isWritten || isInTheMaking()) {
            fault(6, "a throw of another form, or in a constructor", tree);
        }
        return super.visitThrow(tree, none);
    }

    @Override
    public Void visitBinary(BinaryTree tree, Void none) {
        TypeMirror type = trees.getTypeMirror(getCurrentPath());
        boolean divides = tree.getKind() == Tree.Kind.DIVIDE || tree.getKind() == Tree.Kind.REMAINDER;
        if (divides && !isLookedAt(tree.getRightOperand())) {
            fault(7, "a divisor that is not looked at", tree);
        }
        if (tree.getKind() == Tree.Kind.PLUS && !type.getKind().isPrimitive()) {
            fault(10, "texts joined by +", tree);
        }
        return super.visitBinary(tree, none);
    }

    @Override
    public Void visitCompoundAssignment(CompoundAssignmentTree tree, Void none) {
        boolean divides = tree.getKind() == Tree.Kind.DIVIDE_ASSIGNMENT || tree.getKind() == Tree.Kind.REMAINDER_ASSIGNMENT;
        if (divides && !isLookedAt(tree.getExpression())) {
            fault(7, "a divisor that is not looked at", tree);
        }
        if (!trees.getTypeMirror(getCurrentPath()).getKind().isPrimitive()) {
            fault(10, "texts joined by +=", tree);
        }
        return super.visitCompoundAssignment(tree, none);
    }

    /** A number written out that is not 0, or what the method compares with 0. */
    private boolean isLookedAt(ExpressionTree divisor) {
        ExpressionTree bare = divisor;
        while (bare instanceof TypeCastTree) {
            bare = ((TypeCastTree) bare).getExpression();
        }
        if (bare instanceof LiteralTree) {
            return ((Number) ((LiteralTree) bare).getValue()).doubleValue() != 0;
        }
        MethodTree method = around(MethodTree.class);
        return method != null && method.getBody().toString().contains(bare + " == 0");
    }

    /** A cast to another kind of number is fine, one to a class is not used. */
    @Override
    public Void visitTypeCast(TypeCastTree tree, Void none) {
        if (!trees.getTypeMirror(getCurrentPath()).getKind().isPrimitive()) {
            fault(6, "a cast to a class", tree);
        }
        return super.visitTypeCast(tree, none);
    }

    /** Each loop counts up to a bound, by a variable that is set nowhere else. */
    @Override
    public Void visitForLoop(ForLoopTree tree, Void none) {
        boolean hasAnEnd = false;
        for (ExpressionStatementTree step : tree.getUpdate()) {
            if (step.getExpression().getKind() == Tree.Kind.POSTFIX_INCREMENT && tree.getCondition() != null) {
                String counter = ((UnaryTree) step.getExpression()).getExpression().toString();
                boolean isBound = tree.getCondition().toString().matches("\\(*" + counter + " < [\\w.\\[\\]]+( && .*)?\\)*");
                boolean isSet = tree.getStatement().toString().matches("(?s).*\\b" + counter + "(\\+\\+|--| \\S?= ).*");
                hasAnEnd |= isBound && !isSet;
            }
        }
        if (!hasAnEnd) {
            fault(9, "a loop whose end is not seen from its lines", tree);
        }
        return super.visitForLoop(tree, none);
    }
}
