import com.sun.source.tree.AssertTree;
import com.sun.source.tree.BinaryTree;
import com.sun.source.tree.BlockTree;
import com.sun.source.tree.ClassTree;
import com.sun.source.tree.CompilationUnitTree;
import com.sun.source.tree.CompoundAssignmentTree;
import com.sun.source.tree.ForLoopTree;
import com.sun.source.tree.ImportTree;
import com.sun.source.tree.LambdaExpressionTree;
import com.sun.source.tree.LiteralTree;
import com.sun.source.tree.MemberReferenceTree;
import com.sun.source.tree.MethodInvocationTree;
import com.sun.source.tree.MethodTree;
import com.sun.source.tree.NewArrayTree;
import com.sun.source.tree.NewClassTree;
import com.sun.source.tree.SynchronizedTree;
import com.sun.source.tree.ThrowTree;
import com.sun.source.tree.Tree;
import com.sun.source.tree.TryTree;
import com.sun.source.tree.VariableTree;
import com.sun.source.tree.WhileLoopTree;
import com.sun.source.util.SourcePositions;
import com.sun.source.util.TreePath;
import com.sun.source.util.TreePathScanner;
import com.sun.source.util.Trees;
import java.util.HashMap;
import java.util.HashSet;
import java.util.LinkedHashSet;
import java.util.Map;
import java.util.Set;
import javax.lang.model.element.Element;
import javax.lang.model.element.ElementKind;
import javax.lang.model.element.ExecutableElement;
import javax.lang.model.element.Modifier;
import javax.lang.model.element.TypeElement;
import javax.lang.model.element.VariableElement;
import javax.lang.model.type.ArrayType;
import javax.lang.model.type.DeclaredType;
import javax.lang.model.type.TypeKind;
import javax.lang.model.type.TypeMirror;

/** Goes through the source and tells each place that breaks a rule; it allows all that the rules allow. */
final class LanguageRules extends TreePathScanner<Void, Void> {
    private static final String FACE = "GesturePidgin";
    private static final Set<String> IMPORTS =
        Set.of("java.util.ArrayList", "java.util.List", "java.util.Arrays", "java.util.Iterator");
    private static final Set<String> NUMBER_CLASSES = Set.of("java.lang.Integer", "java.lang.Long", "java.lang.Math");
    private static final Set<String> LISTS = Set.of("java.util.List", "java.util.ArrayList", "java.util.Collection",
        "java.util.AbstractList", "java.util.AbstractCollection");
    private static final Set<String> OF_LISTS =
        Set.of("<init>", "add", "get", "set", "remove", "size", "isEmpty", "clear", "of");
    private static final Map<String, Set<String>> LIBRARY = Map.of(
        "java.lang.Object", Set.of("<init>"),
        "java.lang.Enum", Set.of("<init>"),
        "java.lang.Record", Set.of("<init>"),
        "java.lang.String",
        Set.of("<init>", "length", "charAt", "isEmpty", "equals", "indexOf", "substring", "toCharArray"),
        "java.lang.StringBuilder", Set.of("<init>", "append", "charAt", "setCharAt", "setLength", "deleteCharAt",
            "reverse", "length", "toString"),
        "java.lang.System", Set.of("arraycopy"),
        "java.util.Arrays", Set.of("copyOf", "copyOfRange", "fill"),
        "java.util.Iterator", Set.of("hasNext", "next"),
        "java.lang.Iterable", Set.of("iterator"),
        "java.lang.Comparable", Set.of("compareTo"));
    private static final Set<String> TYPES = Set.of("java.lang.String", "java.lang.StringBuilder",
        "java.lang.Integer", "java.util.List", "java.util.ArrayList", "java.util.Iterator", "java.lang.Iterable",
        "java.lang.Comparable");

    private final CompilationUnitTree unit;
    private final Trees trees;
    private final Due due;
    private final Map<Element, Set<Element>> calls = new HashMap<>();
    private final Set<String> publicNames = new HashSet<>();
    private final Set<String> privateNames = new HashSet<>();
    private Element method;
    private int classes = 0;

    LanguageRules(CompilationUnitTree unit, Trees trees, Due due) {
        this.unit = unit;
        this.trees = trees;
        this.due = due;
    }

    private void rule(int number, Tree tree, String what, boolean kept) {
        SourcePositions positions = trees.getSourcePositions();
        long line = unit.getLineMap().getLineNumber(Math.max(0, positions.getStartPosition(unit, tree)));
        due.holds("rule " + number + ", line " + line + ": " + what, kept);
    }

    private void never(int number, Tree tree) {
        rule(number, tree, "no " + tree.getKind(), false);
    }

    private TypeMirror type(Tree tree) {
        return trees.getTypeMirror(new TreePath(getCurrentPath(), tree));
    }

    private static String name(TypeMirror type) {
        return type.getKind() == TypeKind.DECLARED
            ? ((TypeElement) ((DeclaredType) type).asElement()).getQualifiedName().toString() : type.toString();
    }

    private static boolean isOwn(String name) {
        return name.equals(FACE) || name.startsWith(FACE + ".");
    }

    /** What can be told only when all has been seen. */
    void end() {
        due.holds("rule 11: some twelve classes, here " + classes, classes <= 13);
        for (String name : privateNames) {
            due.holds("rule 1: a private method has the public name " + name, !publicNames.contains(name));
        }
        for (Element each : calls.keySet()) {
            int depth = depth(each, new LinkedHashSet<>());
            due.holds("rule 11: calls " + depth + " deep from " + each, depth <= 8);
        }
    }

    /** How deep calls go below a method; one that stands open already is a recursion, which has a rule of its own. */
    private int depth(Element from, Set<Element> open) {
        int deepest = 0;
        open.add(from);
        for (Element to : calls.getOrDefault(from, Set.of())) {
            deepest = open.contains(to) ? deepest : Math.max(deepest, depth(to, open));
        }
        open.remove(from);
        return deepest + 1;
    }

    @Override
    public Void visitCompilationUnit(CompilationUnitTree tree, Void none) {
        due.holds("no package line", tree.getPackageName() == null);
        due.is("rule 1: one class outside of all others", tree.getTypeDecls().size(), 1);
        return super.visitCompilationUnit(tree, none);
    }

    @Override
    public Void visitImport(ImportTree tree, Void none) {
        rule(4, tree, "import of " + tree.getQualifiedIdentifier(),
            !tree.isStatic() && IMPORTS.contains(tree.getQualifiedIdentifier().toString()));
        return null;
    }

    @Override
    public Void visitClass(ClassTree tree, Void none) {
        classes++;
        TypeElement type = (TypeElement) trees.getElement(getCurrentPath());
        boolean top = getCurrentPath().getParentPath().getLeaf() instanceof CompilationUnitTree;
        boolean inside = getCurrentPath().getParentPath().getLeaf() instanceof ClassTree;
        rule(2, tree, "no local or anonymous class", top || inside);
        if (top) {
            rule(1, tree, "the class is public and final " + FACE, type.getModifiers().contains(Modifier.PUBLIC)
                && type.getModifiers().contains(Modifier.FINAL) && type.getSimpleName().contentEquals(FACE));
        } else {
            rule(2, tree, type + " is static", type.getModifiers().contains(Modifier.STATIC));
            rule(1, tree, type + " is private or package-visible", !type.getModifiers().contains(Modifier.PUBLIC)
                && !type.getModifiers().contains(Modifier.PROTECTED));
        }
        int fields = 0;
        for (Element member : type.getEnclosedElements()) {
            fields += member.getKind() == ElementKind.FIELD && !member.getModifiers().contains(Modifier.STATIC) ? 1 : 0;
        }
        rule(11, tree, "some twenty fields, here " + fields, fields <= 22);
        return super.visitClass(tree, none);
    }

    @Override
    public Void visitMethod(MethodTree tree, Void none) {
        ExecutableElement declared = (ExecutableElement) trees.getElement(getCurrentPath());
        Element outer = method;
        method = declared;
        calls.computeIfAbsent(declared, each -> new LinkedHashSet<>());
        String name = tree.getName().toString();
        if (declared.getModifiers().contains(Modifier.PRIVATE) && declared.getKind() == ElementKind.METHOD) {
            privateNames.add(name);
        }
        if (declared.getModifiers().contains(Modifier.PUBLIC) && isFace(declared.getEnclosingElement())) {
            publicNames.add(name);
        }
        rule(6, tree, "no exception of " + name, tree.getThrows().isEmpty());
        rule(6, tree, name + " isn't synchronized", !declared.getModifiers().contains(Modifier.SYNCHRONIZED));
        rule(6, tree, "no own " + name, !Set.of("equals", "hashCode", "toString").contains(name));
        rule(11, tree, "seven parameters of " + name, tree.getParameters().size() <= 7);
        rule(11, tree, "some sixty lines of " + name, lines(tree) <= 66);
        rule(3, tree, "type of " + name, isAllowed(declared.getReturnType()));
        super.visitMethod(tree, none);
        method = outer;
        return null;
    }

    private static boolean isFace(Element type) {
        return type instanceof TypeElement && ((TypeElement) type).getQualifiedName().contentEquals(FACE);
    }

    private long lines(Tree tree) {
        SourcePositions positions = trees.getSourcePositions();
        long first = unit.getLineMap().getLineNumber(Math.max(0, positions.getStartPosition(unit, tree)));
        return unit.getLineMap().getLineNumber(Math.max(0, positions.getEndPosition(unit, tree))) - first + 1;
    }

    /** Rule 3, for the type of a variable or of an answer. */
    private static boolean isAllowed(TypeMirror type) {
        if (type.getKind().isPrimitive() || type.getKind() == TypeKind.VOID || type.getKind() == TypeKind.TYPEVAR) {
            return true;
        }
        if (type.getKind() == TypeKind.ARRAY) {
            TypeMirror part = ((ArrayType) type).getComponentType();
            boolean rows = part.getKind() == TypeKind.ARRAY
                && ((ArrayType) part).getComponentType().getKind().isPrimitive();
            return rows || part.getKind().isPrimitive()
                || part.getKind() == TypeKind.DECLARED && isOwn(name(part));
        }
        return type.getKind() == TypeKind.DECLARED && (isOwn(name(type)) || TYPES.contains(name(type)))
            && ((DeclaredType) type).getTypeArguments().stream().allMatch(LanguageRules::isAllowedInside);
    }

    private static boolean isAllowedInside(TypeMirror type) {
        return type.getKind() == TypeKind.TYPEVAR || type.getKind() == TypeKind.DECLARED
            && (isOwn(name(type)) || name(type).equals("java.lang.Integer"));
    }

    @Override
    public Void visitVariable(VariableTree tree, Void none) {
        VariableElement variable = (VariableElement) trees.getElement(getCurrentPath());
        if (variable.getKind() != ElementKind.ENUM_CONSTANT) {
            rule(3, tree, "type of " + tree.getName(), isAllowed(variable.asType()));
        }
        boolean field = variable.getKind() == ElementKind.FIELD;
        if (field && variable.getModifiers().contains(Modifier.STATIC)) {
            rule(5, tree, tree.getName() + " is final", variable.getModifiers().contains(Modifier.FINAL));
            rule(5, tree, tree.getName() + " is a constant or a row written out", isConstant(tree, variable));
        } else if (field && variable.getEnclosingElement().getKind() == ElementKind.ENUM) {
            rule(2, tree, "type of an enum's " + tree.getName(), isConstantType(variable.asType()));
        }
        return super.visitVariable(tree, none);
    }

    private static boolean isConstant(VariableTree tree, VariableElement variable) {
        TypeMirror type = variable.asType();
        if (type.getKind() != TypeKind.ARRAY) {
            return isConstantType(type);
        }
        TypeMirror part = ((ArrayType) type).getComponentType();
        if (part.getKind() == TypeKind.DECLARED) {
            return ((DeclaredType) part).asElement().getKind() == ElementKind.ENUM;
        }
        return Set.of(TypeKind.INT, TypeKind.LONG, TypeKind.CHAR, TypeKind.BYTE).contains(part.getKind())
            && tree.getInitializer() instanceof NewArrayTree
            && ((NewArrayTree) tree.getInitializer()).getInitializers() != null;
    }

    private static boolean isConstantType(TypeMirror type) {
        return Set.of(TypeKind.INT, TypeKind.LONG, TypeKind.BOOLEAN, TypeKind.CHAR).contains(type.getKind())
            || name(type).equals("java.lang.String");
    }

    @Override
    public Void visitBlock(BlockTree tree, Void none) {
        rule(5, tree, "no static block", !tree.isStatic());
        return super.visitBlock(tree, none);
    }

    @Override
    public Void visitMethodInvocation(MethodInvocationTree tree, Void none) {
        ExecutableElement called = (ExecutableElement) trees.getElement(getCurrentPath());
        remember(called);
        rule(4, tree, "call of " + called.getEnclosingElement() + "." + called, isAllowedCall(called));
        return super.visitMethodInvocation(tree, none);
    }

    @Override
    public Void visitNewClass(NewClassTree tree, Void none) {
        Element made = trees.getElement(getCurrentPath());
        rule(2, tree, "no class without a name, no constant with a body", tree.getClassBody() == null);
        if (made instanceof ExecutableElement) {
            remember(made);
            rule(4, tree, "new " + made.getEnclosingElement(), isAllowedCall((ExecutableElement) made));
        }
        return super.visitNewClass(tree, none);
    }

    private void remember(Element called) {
        if (method != null) {
            calls.get(method).add(called);
        }
    }

    private static boolean isAllowedCall(ExecutableElement called) {
        Element owner = called.getEnclosingElement();
        String type = owner instanceof TypeElement ? ((TypeElement) owner).getQualifiedName().toString() : "";
        String name = called.getSimpleName().toString();
        if (type.equals("Array") || type.isEmpty()) {
            return name.equals("clone");
        }
        if (NUMBER_CLASSES.contains(type)) {
            return called.getModifiers().contains(Modifier.STATIC) && !name.endsWith("Exact")
                && !called.getParameters().isEmpty() && called.getParameters().stream().map(VariableElement::asType)
                    .allMatch(each -> each.getKind() == TypeKind.INT || each.getKind() == TypeKind.LONG);
        }
        return isOwn(type) || LISTS.contains(type) && OF_LISTS.contains(name)
            || LIBRARY.getOrDefault(type, Set.of()).contains(name);
    }

    @Override
    public Void visitBinary(BinaryTree tree, Void none) {
        String left = name(type(tree.getLeftOperand()));
        String right = name(type(tree.getRightOperand()));
        boolean texts = left.equals("java.lang.String") || right.equals("java.lang.String");
        if (tree.getKind() == Tree.Kind.PLUS) {
            rule(10, tree, "texts aren't joined by +", !texts);
        }
        if (tree.getKind() == Tree.Kind.EQUAL_TO || tree.getKind() == Tree.Kind.NOT_EQUAL_TO) {
            boolean same = left.equals(right) && (texts || left.equals("java.lang.Integer"));
            rule(6, tree, "neither Strings nor Integers are compared by ==", !same);
        }
        return super.visitBinary(tree, none);
    }

    @Override
    public Void visitCompoundAssignment(CompoundAssignmentTree tree, Void none) {
        rule(10, tree, "texts aren't joined by +=", !name(type(tree.getVariable())).equals("java.lang.String"));
        return super.visitCompoundAssignment(tree, none);
    }

    @Override
    public Void visitLiteral(LiteralTree tree, Void none) {
        if (tree.getValue() instanceof String || tree.getValue() instanceof Character) {
            rule(4, tree, "signs from 1 to 127", tree.getValue().toString().chars().allMatch(c -> c > 0 && c < 128));
        }
        return null;
    }

    @Override
    public Void visitForLoop(ForLoopTree tree, Void none) {
        rule(9, tree, "a loop has a condition", tree.getCondition() != null);
        return super.visitForLoop(tree, none);
    }

    @Override
    public Void visitWhileLoop(WhileLoopTree tree, Void none) {
        rule(9, tree, "a loop has a condition that may fail", !tree.getCondition().toString().equals("(true)"));
        return super.visitWhileLoop(tree, none);
    }

    @Override
    public Void visitLambdaExpression(LambdaExpressionTree tree, Void none) {
        never(2, tree);
        return null;
    }

    @Override
    public Void visitMemberReference(MemberReferenceTree tree, Void none) {
        never(2, tree);
        return null;
    }

    @Override
    public Void visitThrow(ThrowTree tree, Void none) {
        never(6, tree);
        return null;
    }

    @Override
    public Void visitTry(TryTree tree, Void none) {
        never(6, tree);
        return null;
    }

    @Override
    public Void visitSynchronized(SynchronizedTree tree, Void none) {
        never(6, tree);
        return null;
    }

    @Override
    public Void visitAssert(AssertTree tree, Void none) {
        never(6, tree);
        return null;
    }
}
