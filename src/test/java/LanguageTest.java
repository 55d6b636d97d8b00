import com.sun.source.tree.AssertTree;
import com.sun.source.tree.BinaryTree;
import com.sun.source.tree.BlockTree;
import com.sun.source.tree.CatchTree;
import com.sun.source.tree.ClassTree;
import com.sun.source.tree.CompilationUnitTree;
import com.sun.source.tree.CompoundAssignmentTree;
import com.sun.source.tree.ExpressionTree;
import com.sun.source.tree.LambdaExpressionTree;
import com.sun.source.tree.LineMap;
import com.sun.source.tree.LiteralTree;
import com.sun.source.tree.MemberReferenceTree;
import com.sun.source.tree.MethodInvocationTree;
import com.sun.source.tree.MethodTree;
import com.sun.source.tree.NewArrayTree;
import com.sun.source.tree.NewClassTree;
import com.sun.source.tree.SynchronizedTree;
import com.sun.source.tree.ThrowTree;
import com.sun.source.tree.Tree;
import com.sun.source.tree.TryTree;
import com.sun.source.tree.VariableTree;
import com.sun.source.util.JavacTask;
import com.sun.source.util.SourcePositions;
import com.sun.source.util.TreePath;
import com.sun.source.util.TreePathScanner;
import com.sun.source.util.Trees;
import java.io.File;
import java.io.IOException;
import java.util.HashMap;
import java.util.HashSet;
import java.util.LinkedHashMap;
import java.util.LinkedHashSet;
import java.util.List;
import java.util.Map;
import java.util.Set;
import javax.lang.model.element.Element;
import javax.lang.model.element.ElementKind;
import javax.lang.model.element.Modifier;
import javax.lang.model.type.ArrayType;
import javax.lang.model.type.DeclaredType;
import javax.lang.model.type.TypeKind;
import javax.lang.model.type.TypeMirror;
import javax.tools.JavaCompiler;
import javax.tools.StandardJavaFileManager;
import javax.tools.ToolProvider;

/** What of ../shared/LANGUAGE.md can be seen in the program as javac reads it; each check bears the rule's number. */
public final class LanguageTest extends TreePathScanner<Void, Void> {
    private static final Check CHECK = new Check();
    private static final int PARAMETERS = 7;
    /** The method of the face, and eight calls behind it. */
    private static final int METHODS_OPEN = 9;
    /** Where the rule says "some", somewhat more than that. */
    private static final int LINES = 75;
    private static final int CLASSES = 15;
    private static final int FIELDS = 25;

    private static final Set<String> EXCEPTIONS = Set.of("IllegalStateException", "IllegalArgumentException",
            "IndexOutOfBoundsException", "ArithmeticException", "UnsupportedOperationException", "NoSuchElementException",
            "RuntimeException");
    private static final Set<String> TYPES = Set.of("String", "StringBuilder", "Integer", "ArrayList", "List", "Iterator",
            "Iterable", "Comparable");
    private static final Map<String, Set<String>> LIBRARY = Map.of(
            "String", Set.of("length", "charAt", "isEmpty", "equals", "indexOf", "substring", "toCharArray", "<init>"),
            "StringBuilder", Set.of("<init>", "append", "charAt", "setCharAt", "setLength", "deleteCharAt", "reverse",
                    "length", "toString"),
            "ArrayList", Set.of("<init>", "add", "get", "set", "remove", "size", "isEmpty", "clear"),
            "List", Set.of("add", "get", "set", "remove", "size", "isEmpty", "clear", "of"),
            "Iterator", Set.of("hasNext", "next"),
            "Iterable", Set.of("iterator"),
            "Comparable", Set.of("compareTo"),
            "System", Set.of("arraycopy"),
            "Arrays", Set.of("copyOf", "copyOfRange", "fill"));
    private static final Set<String> APPENDED = Set.of("char", "java.lang.String", "int");

    private final Trees trees;
    private final Set<String> face = new HashSet<>();
    private final Set<String> hidden = new HashSet<>();
    private final Map<Element, Set<Element>> calls = new LinkedHashMap<>();
    private final Map<Element, Set<Element>> reached = new HashMap<>();
    private final Map<Element, Integer> depths = new HashMap<>();
    private int classes;
    private Element now;

    private LanguageTest(Trees trees) {
        this.trees = trees;
    }

    public static void main(String[] args) throws IOException {
        JavaCompiler compiler = ToolProvider.getSystemJavaCompiler();
        try (StandardJavaFileManager files = compiler.getStandardFileManager(null, null, null)) {
            JavacTask task = (JavacTask) compiler.getTask(null, files, null, List.of("-proc:none"), null,
                    files.getJavaFileObjects(new File("src/main/java/Downhill.java")));
            Iterable<? extends CompilationUnitTree> units = task.parse();
            task.analyze();
            LanguageTest test = new LanguageTest(Trees.instance(task));
            test.scan(units, null);
            test.judge();
        }
        CHECK.end("the language");
    }

    private static void rule(int number, String what, boolean isKept) {
        CHECK.is("rule " + number + ", " + what, isKept, true);
    }

    private void judge() {
        rule(1, "the methods of the face are seen: " + face.size(), face.size() == 44);
        hidden.retainAll(face);
        rule(1, "private methods with names of the face: " + hidden, hidden.isEmpty());
        rule(11, classes + " classes", classes <= CLASSES);
        for (Element method : calls.keySet()) {
            reached.put(method, reachedFrom(method));
        }
        for (Element method : calls.keySet()) {
            int depth = depth(method);
            rule(11, depth + " methods open by " + nameOf(method), depth <= METHODS_OPEN);
        }
    }

    private Set<Element> reachedFrom(Element method) {
        Set<Element> all = new LinkedHashSet<>();
        List<Element> open = new java.util.ArrayList<>(List.of(method));
        while (!open.isEmpty()) {
            for (Element called : calls.getOrDefault(open.remove(open.size() - 1), Set.of())) {
                if (calls.containsKey(called) && all.add(called)) {
                    open.add(called);
                }
            }
        }
        return all;
    }

    /** How many methods stand open at most; those that call one another count once. */
    private int depth(Element method) {
        Integer before = depths.get(method);
        if (before != null) {
            return before;
        }
        int deepest = 0;
        for (Element called : reached.get(method)) {
            if (!reached.get(called).contains(method)) {
                deepest = Math.max(deepest, depth(called));
            }
        }
        depths.put(method, deepest + 1);
        return deepest + 1;
    }

    private static String nameOf(Element method) {
        return ownerOf(method) + "." + method.getSimpleName();
    }

    /** What stands in a class that the library hides counts as the class's that the rules name. */
    private static String ownerOf(Element member) {
        String name = member.getEnclosingElement().getSimpleName().toString();
        return name.equals("AbstractStringBuilder") ? "StringBuilder" : name.equals("Collection") ? "List" : name;
    }

    private static boolean isOwn(Element element) {
        Element outer = element;
        while (outer.getEnclosingElement() != null && outer.getEnclosingElement().getKind() != ElementKind.PACKAGE) {
            outer = outer.getEnclosingElement();
        }
        return outer.getSimpleName().contentEquals("Downhill");
    }

    // ---- classes and what they have

    @Override
    public Void visitClass(ClassTree tree, Void none) {
        classes++;
        int fields = 0;
        for (Tree member : tree.getMembers()) {
            boolean isBlock = member instanceof BlockTree;
            rule(5, "a static block", !isBlock || !((BlockTree) member).isStatic());
            if (member instanceof VariableTree) {
                Set<Modifier> flags = ((VariableTree) member).getModifiers().getFlags();
                boolean isStatic = flags.contains(Modifier.STATIC) || tree.getKind() == Tree.Kind.INTERFACE;
                boolean isConstant = flags.contains(Modifier.FINAL) || tree.getKind() == Tree.Kind.INTERFACE;
                rule(5, "a static field that is not final: " + ((VariableTree) member).getName(), !isStatic || isConstant);
                fields += isStatic ? 0 : 1;
            }
        }
        rule(11, tree.getSimpleName() + " has " + fields + " fields", fields <= FIELDS);
        return super.visitClass(tree, none);
    }

    @Override
    public Void visitMethod(MethodTree tree, Void none) {
        Element outer = now;
        now = trees.getElement(getCurrentPath());
        calls.put(now, new LinkedHashSet<>());
        boolean isOfFace = now.getEnclosingElement().getSimpleName().contentEquals("Downhill")
                && now.getModifiers().contains(Modifier.PUBLIC) && now.getKind() == ElementKind.METHOD;
        if (isOfFace) {
            face.add(tree.getName().toString());
        } else if (now.getModifiers().contains(Modifier.PRIVATE)) {
            hidden.add(tree.getName().toString());
        }
        rule(11, "parameters of " + nameOf(now), tree.getParameters().size() <= PARAMETERS);
        rule(11, "lines of " + nameOf(now) + ": " + lines(tree), lines(tree) <= LINES);
        if (tree.getReturnType() != null) {
            type("what is returned by " + nameOf(now), trees.getTypeMirror(new TreePath(getCurrentPath(), tree.getReturnType())));
        }
        super.visitMethod(tree, none);
        now = outer;
        return null;
    }

    private long lines(MethodTree tree) {
        CompilationUnitTree unit = getCurrentPath().getCompilationUnit();
        SourcePositions positions = trees.getSourcePositions();
        LineMap map = unit.getLineMap();
        long end = positions.getEndPosition(unit, tree);
        return end < 0 ? 1 : map.getLineNumber(end) - map.getLineNumber(positions.getStartPosition(unit, tree)) + 1;
    }

    // ---- types

    @Override
    public Void visitVariable(VariableTree tree, Void none) {
        type("the type of " + tree.getName(), trees.getTypeMirror(getCurrentPath()));
        return super.visitVariable(tree, none);
    }

    @Override
    public Void visitNewArray(NewArrayTree tree, Void none) {
        type("a new array", trees.getTypeMirror(getCurrentPath()));
        return super.visitNewArray(tree, none);
    }

    private static void type(String what, TypeMirror type) {
        rule(3, what + ": " + type, isFree(type, 0));
    }

    private static boolean isFree(TypeMirror type, int dimensions) {
        if (type.getKind() == TypeKind.ARRAY) {
            return isFree(((ArrayType) type).getComponentType(), dimensions + 1);
        }
        if (type.getKind().isPrimitive()) {
            return dimensions < 2 || dimensions == 2 && type.getKind() != TypeKind.BOOLEAN;
        }
        if (type.getKind() != TypeKind.DECLARED) {
            return type.getKind() == TypeKind.VOID || type.getKind() == TypeKind.TYPEVAR;
        }
        Element element = ((DeclaredType) type).asElement();
        String name = element.getSimpleName().toString();
        return isOwn(element) ? dimensions < 2 : dimensions == 0 && (TYPES.contains(name) || EXCEPTIONS.contains(name));
    }

    // ---- calls

    @Override
    public Void visitMethodInvocation(MethodInvocationTree tree, Void none) {
        Element called = trees.getElement(getCurrentPath());
        note(called);
        if (called.getSimpleName().contentEquals("append")) {
            String type = "" + trees.getTypeMirror(new TreePath(getCurrentPath(), tree.getArguments().get(0)));
            rule(4, "append of " + type, APPENDED.contains(type));
        }
        return super.visitMethodInvocation(tree, none);
    }

    @Override
    public Void visitNewClass(NewClassTree tree, Void none) {
        note(trees.getElement(getCurrentPath()));
        return super.visitNewClass(tree, none);
    }

    private void note(Element called) {
        if (now != null) {
            calls.get(now).add(called);
        }
        rule(4, "a call of " + nameOf(called), isOwn(called) || isFreeCall(called));
    }

    private static boolean isFreeCall(Element called) {
        String owner = ownerOf(called);
        String name = called.getSimpleName().toString();
        boolean isFunction = called.getModifiers().contains(Modifier.STATIC) && !name.endsWith("Exact");
        switch (owner) {
            case "Object":
            case "Enum":
            case "Record":
                return Set.of("<init>", "clone", "ordinal", "name").contains(name);
            case "Array":
                return name.equals("clone");
            case "Integer":
            case "Long":
            case "Math":
                return isFunction && isOverWholeNumbers(called) || name.equals("intValue") || name.equals("compareTo");
            default:
                return EXCEPTIONS.contains(owner) && name.equals("<init>")
                        || LIBRARY.getOrDefault(owner, Set.of()).contains(name);
        }
    }

    private static boolean isOverWholeNumbers(Element called) {
        String text = called.toString();
        String types = text.substring(text.indexOf('(') + 1, text.indexOf(')'));
        return List.of(types.split(",")).stream().allMatch(type -> type.equals("int") || type.equals("long"));
    }

    // ---- throws, and what there is not

    @Override
    public Void visitThrow(ThrowTree tree, Void none) {
        ExpressionTree thrown = tree.getExpression();
        boolean isNew = thrown instanceof NewClassTree;
        boolean isWritten = isNew && ((NewClassTree) thrown).getArguments().stream().allMatch(LiteralTree.class::isInstance);
        rule(6, "" + tree, isWritten && EXCEPTIONS.contains("" + ((NewClassTree) thrown).getIdentifier()));
        rule(6, "a throw in a constructor", now.getKind() == ElementKind.METHOD);
        return super.visitThrow(tree, none);
    }

    @Override
    public Void visitTry(TryTree tree, Void none) {
        rule(6, "finally", tree.getFinallyBlock() == null);
        rule(6, "try with resources", tree.getResources().isEmpty());
        return super.visitTry(tree, none);
    }

    @Override
    public Void visitCatch(CatchTree tree, Void none) {
        rule(6, "catch " + tree.getParameter(), EXCEPTIONS.contains("" + tree.getParameter().getType()));
        return super.visitCatch(tree, none);
    }

    @Override
    public Void visitAssert(AssertTree tree, Void none) {
        rule(6, "assert", false);
        return super.visitAssert(tree, none);
    }

    @Override
    public Void visitSynchronized(SynchronizedTree tree, Void none) {
        rule(6, "synchronized", false);
        return super.visitSynchronized(tree, none);
    }

    @Override
    public Void visitLambdaExpression(LambdaExpressionTree tree, Void none) {
        rule(2, "a lambda " + tree, false);
        return super.visitLambdaExpression(tree, none);
    }

    @Override
    public Void visitMemberReference(MemberReferenceTree tree, Void none) {
        rule(2, "a method reference " + tree, false);
        return super.visitMemberReference(tree, none);
    }

    @Override
    public Void visitBinary(BinaryTree tree, Void none) {
        rule(10, "a text by +: " + tree, !isText());
        boolean isEquality = tree.getKind() == Tree.Kind.EQUAL_TO || tree.getKind() == Tree.Kind.NOT_EQUAL_TO;
        boolean areTexts = isEquality && isText(tree.getLeftOperand()) && isText(tree.getRightOperand());
        rule(6, "== between texts: " + tree, !areTexts);
        return super.visitBinary(tree, none);
    }

    @Override
    public Void visitCompoundAssignment(CompoundAssignmentTree tree, Void none) {
        rule(10, "a text by +: " + tree, !isText());
        return super.visitCompoundAssignment(tree, none);
    }

    private boolean isText() {
        return "java.lang.String".equals("" + trees.getTypeMirror(getCurrentPath()));
    }

    private boolean isText(Tree operand) {
        return "java.lang.String".equals("" + trees.getTypeMirror(new TreePath(getCurrentPath(), operand)));
    }

    @Override
    public Void visitLiteral(LiteralTree tree, Void none) {
        if (tree.getValue() instanceof String) {
            boolean isPlain = ((String) tree.getValue()).chars().allMatch(sign -> sign >= 1 && sign <= 127);
            rule(4, "the signs of " + tree, isPlain);
        }
        return super.visitLiteral(tree, none);
    }
}
