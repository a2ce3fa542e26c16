import com.sun.source.tree.BinaryTree;
import com.sun.source.tree.BlockTree;
import com.sun.source.tree.ClassTree;
import com.sun.source.tree.CompilationUnitTree;
import com.sun.source.tree.ExpressionTree;
import com.sun.source.tree.ForLoopTree;
import com.sun.source.tree.LineMap;
import com.sun.source.tree.LiteralTree;
import com.sun.source.tree.MethodInvocationTree;
import com.sun.source.tree.MethodTree;
import com.sun.source.tree.NewClassTree;
import com.sun.source.tree.ThrowTree;
import com.sun.source.tree.Tree;
import com.sun.source.tree.TypeCastTree;
import com.sun.source.tree.VariableTree;
import com.sun.source.util.JavacTask;
import com.sun.source.util.TreePathScanner;
import com.sun.source.util.Trees;
import java.io.IOException;
import java.nio.charset.StandardCharsets;
import java.nio.file.Files;
import java.nio.file.Path;
import java.util.ArrayDeque;
import java.util.Deque;
import java.util.HashSet;
import java.util.List;
import java.util.Map;
import java.util.Set;
import java.util.TreeMap;
import java.util.TreeSet;
import javax.lang.model.element.Element;
import javax.lang.model.element.ElementKind;
import javax.lang.model.element.ExecutableElement;
import javax.lang.model.element.Modifier;
import javax.lang.model.element.TypeElement;
import javax.lang.model.type.TypeMirror;
import javax.tools.JavaCompiler;
import javax.tools.StandardJavaFileManager;
import javax.tools.ToolProvider;

/**
 * The class keeps to the rules of ../shared/LANGUAGE.md that can be seen in its text. What the rules allow but
 * the class has no need of (try, instanceof, switch, recursion) is told here too, so that it is thought over.
 */
public final class LacehallLanguage extends TreePathScanner<Void, Void> {
    private static final Path PROGRAM = Path.of("src/main/java/Lacehall.java");
    private static final Set<Tree.Kind> NOT_HERE = Set.of(Tree.Kind.LAMBDA_EXPRESSION, Tree.Kind.MEMBER_REFERENCE,
            Tree.Kind.TRY, Tree.Kind.SYNCHRONIZED, Tree.Kind.ASSERT, Tree.Kind.INSTANCE_OF, Tree.Kind.SWITCH,
            Tree.Kind.SWITCH_EXPRESSION, Tree.Kind.ANNOTATION, Tree.Kind.RECORD,
            Tree.Kind.LABELED_STATEMENT, Tree.Kind.DO_WHILE_LOOP, Tree.Kind.ENHANCED_FOR_LOOP);
    private static final Set<String> LIBRARY = Set.of("java.util.ArrayList.add", "java.util.ArrayList.get",
            "java.util.ArrayList.size", "java.util.ArrayList.remove", "java.lang.Integer.bitCount",
            "java.lang.Math.min", "java.lang.Math.max", "java.util.Arrays.fill");
    private static final Set<String> EXCEPTIONS = Set.of("IllegalStateException", "IllegalArgumentException",
            "IndexOutOfBoundsException", "ArithmeticException", "UnsupportedOperationException",
            "NoSuchElementException");
    private static final Set<String> TYPES = Set.of("int", "long", "boolean", "char", "float", "double", "int[]",
            "long[]", "void");
    private static final int MAX_DEPTH = 8;

    private final Trees trees;
    private final CompilationUnitTree unit;
    private final Map<String, Set<String>> calls = new TreeMap<>();
    private final Deque<String> methods = new ArrayDeque<>();
    private final Set<String> openNames = new HashSet<>();
    private final Set<String> closedNames = new HashSet<>();
    private int classes = 0;

    private LacehallLanguage(Trees trees, CompilationUnitTree unit) {
        this.trees = trees;
        this.unit = unit;
    }

    public static void main(String[] arguments) throws IOException {
        JavaCompiler compiler = ToolProvider.getSystemJavaCompiler();
        try (StandardJavaFileManager files = compiler.getStandardFileManager(null, null, null)) {
            JavacTask task = (JavacTask) compiler.getTask(null, files, null, List.of("-proc:none"), null,
                    files.getJavaFileObjects(PROGRAM));
            for (CompilationUnitTree unit : task.parse()) {
                task.analyze();
                LacehallLanguage look = new LacehallLanguage(Trees.instance(task), unit);
                look.scan(unit, null);
                look.checkWhole();
            }
        }
        checkText(Files.readString(PROGRAM, StandardCharsets.UTF_8));
        Check.finish("LacehallLanguage");
    }

    private static void checkText(String text) {
        Check.is("all signs are 10 or 32 to 126", text.chars().allMatch(c -> c == '\n' || c >= ' ' && c < 127), true);
        Check.is("no package", text.startsWith("import "), true);
    }

    private void checkWhole() {
        Check.is("rule 11: at most 12 classes", classes <= 12, true);
        Set<String> both = new TreeSet<>(openNames);
        both.retainAll(closedNames);
        Check.is("rule 1: names of public and of private methods", both, Set.of());
        for (String method : calls.keySet()) {
            int depth = depthOf(method, new HashSet<>());
            Check.is("rule 11: " + method + " goes " + depth + " deep", depth <= MAX_DEPTH, true);
        }
    }

    private int depthOf(String method, Set<String> open) {
        if (!open.add(method)) {
            Check.is("rule 8: " + method + " calls itself", true, false);
            return 0;
        }
        int deepest = 0;
        for (String called : calls.getOrDefault(method, Set.of())) {
            deepest = Math.max(deepest, depthOf(called, open));
        }
        open.remove(method);
        return deepest + 1;
    }

    @Override
    public Void scan(Tree tree, Void nothing) {
        if (tree != null) {
            Check.is(at(tree) + tree.getKind() + " is here", NOT_HERE.contains(tree.getKind()), false);
        }
        return super.scan(tree, nothing);
    }

    private String at(Tree tree) {
        LineMap lines = unit.getLineMap();
        long start = trees.getSourcePositions().getStartPosition(unit, tree);
        return start < 0 ? "" : "line " + lines.getLineNumber(start) + ": ";
    }

    private long linesOf(Tree tree) {
        LineMap lines = unit.getLineMap();
        long start = trees.getSourcePositions().getStartPosition(unit, tree);
        long end = trees.getSourcePositions().getEndPosition(unit, tree);
        return start < 0 || end < 0 ? 0 : lines.getLineNumber(end) - lines.getLineNumber(start) + 1;
    }

    private static boolean isOwn(Element element) {
        return element.toString().startsWith("Lacehall");
    }

    @Override
    public Void visitClass(ClassTree tree, Void nothing) {
        classes++;
        TypeElement type = (TypeElement) trees.getElement(getCurrentPath());
        boolean isInside = type.getEnclosingElement().getKind() == ElementKind.CLASS;
        Set<Modifier> due = type.getKind() == ElementKind.ENUM
                ? Set.of(Modifier.PRIVATE, Modifier.STATIC, Modifier.FINAL)
                : Set.of(isInside ? Modifier.PRIVATE : Modifier.PUBLIC, Modifier.FINAL);
        Check.is("rule 1: " + type + " is private, or the public one, and final",
                type.getModifiers().containsAll(due), true);
        Check.is("rule 2: " + type + " is static", !isInside || type.getModifiers().contains(Modifier.STATIC), true);
        Check.is("rule 2: " + type + " is plain", tree.getExtendsClause() == null
                && tree.getImplementsClause().isEmpty() && tree.getTypeParameters().isEmpty(), true);
        int fields = 0;
        for (Element member : type.getEnclosedElements()) {
            if (member.getKind() == ElementKind.FIELD) {
                boolean isStatic = member.getModifiers().contains(Modifier.STATIC);
                Check.is("rule 5: " + member + " is private, and final if static",
                        member.getModifiers().contains(Modifier.PRIVATE)
                        && (!isStatic || member.getModifiers().contains(Modifier.FINAL)), true);
                fields += isStatic ? 0 : 1;
            }
        }
        Check.is("rule 11: " + type + " has at most 20 fields", fields <= 20, true);
        for (Tree member : tree.getMembers()) {
            Check.is(at(member) + "rule 5: a block", member instanceof BlockTree, false);
        }
        return super.visitClass(tree, nothing);
    }

    @Override
    public Void visitMethod(MethodTree tree, Void nothing) {
        ExecutableElement method = (ExecutableElement) trees.getElement(getCurrentPath());
        String name = nameOf(method);
        calls.computeIfAbsent(name, key -> new TreeSet<>());
        Check.is("rule 11: " + name + " takes at most seven", method.getParameters().size() <= 7, true);
        Check.is("rule 11: " + name + " has at most 60 lines", linesOf(tree) <= 60, true);
        checkType("rule 3: " + name, method.getReturnType());
        boolean isOpen = method.getModifiers().contains(Modifier.PUBLIC);
        if (method.getKind() == ElementKind.METHOD) {
            (isOpen ? openNames : closedNames).add(method.getSimpleName().toString());
        }
        methods.push(name);
        super.visitMethod(tree, nothing);
        methods.pop();
        return null;
    }

    private static String nameOf(ExecutableElement method) {
        return method.getEnclosingElement() + "." + method.getSimpleName();
    }

    @Override
    public Void visitVariable(VariableTree tree, Void nothing) {
        checkType(at(tree) + "rule 3: " + tree.getName(), trees.getTypeMirror(getCurrentPath()));
        return super.visitVariable(tree, nothing);
    }

    private static void checkType(String what, TypeMirror type) {
        String name = type.toString();
        boolean isKnown = TYPES.contains(name) || name.startsWith("Lacehall")
                || name.startsWith("java.util.ArrayList<Lacehall.");
        Check.is(what + " is a " + name, isKnown, true);
    }

    private void noteCall(Tree tree, ExecutableElement called) {
        if (isOwn(called.getEnclosingElement())) {
            if (!methods.isEmpty()) {
                calls.get(methods.peek()).add(nameOf(called));
            }
        } else if (called.getKind() == ElementKind.METHOD) {
            Check.is(at(tree) + "rule 4: " + nameOf(called), LIBRARY.contains(nameOf(called)), true);
        }
    }

    @Override
    public Void visitMethodInvocation(MethodInvocationTree tree, Void nothing) {
        ExecutableElement called = (ExecutableElement) trees.getElement(getCurrentPath());
        boolean isSuper = called.getKind() == ElementKind.CONSTRUCTOR;
        if (!isSuper) {
            noteCall(tree, called);
        }
        return super.visitMethodInvocation(tree, nothing);
    }

    @Override
    public Void visitNewClass(NewClassTree tree, Void nothing) {
        ExecutableElement called = (ExecutableElement) trees.getElement(getCurrentPath());
        Check.is(at(tree) + "rule 2: no anonymous class", tree.getClassBody() == null, true);
        noteCall(tree, called);
        String name = called.getEnclosingElement().getSimpleName().toString();
        boolean isKnown = isOwn(called.getEnclosingElement()) || name.equals("ArrayList") || EXCEPTIONS.contains(name);
        Check.is(at(tree) + "rule 4: new " + name, isKnown, true);
        return super.visitNewClass(tree, nothing);
    }

    @Override
    public Void visitThrow(ThrowTree tree, Void nothing) {
        Tree above = getCurrentPath().getParentPath().getLeaf();
        while (!(above instanceof MethodTree)) {
            above = trees.getPath(unit, above).getParentPath().getLeaf();
        }
        MethodTree method = (MethodTree) above;
        boolean isListed = false;
        boolean isPlain = false;
        if (tree.getExpression() instanceof NewClassTree made) {
            String thrown = made.getIdentifier().toString();
            isListed = method.getThrows().stream().anyMatch(each -> each.toString().equals(thrown));
            isPlain = made.getArguments().size() == 1 && made.getArguments().get(0) instanceof LiteralTree;
        }
        Check.is(at(tree) + "rule 6: the method of the face lists what it throws",
                isListed && method.getModifiers().getFlags().contains(Modifier.PUBLIC), true);
        Check.is(at(tree) + "rule 6: a written text", isPlain, true);
        return super.visitThrow(tree, nothing);
    }

    @Override
    public Void visitTypeCast(TypeCastTree tree, Void nothing) {
        Check.is(at(tree) + "rule 6: a cast of numbers", tree.getType().getKind(), Tree.Kind.PRIMITIVE_TYPE);
        return super.visitTypeCast(tree, nothing);
    }

    @Override
    public Void visitForLoop(ForLoopTree tree, Void nothing) {
        Check.is(at(tree) + "rule 9: a bound", tree.getCondition() != null, true);
        return super.visitForLoop(tree, nothing);
    }

    @Override
    public Void visitBinary(BinaryTree tree, Void nothing) {
        for (ExpressionTree side : List.of(tree.getLeftOperand(), tree.getRightOperand())) {
            String type = String.valueOf(trees.getTypeMirror(trees.getPath(unit, side)));
            Check.is(at(tree) + "rule 10: joined texts", type.equals("java.lang.String"), false);
        }
        boolean isDivision = tree.getKind() == Tree.Kind.DIVIDE || tree.getKind() == Tree.Kind.REMAINDER;
        boolean isGuarded = Set.of("workedShare", "meanUsed").contains(lastMethod());
        Check.is(at(tree) + "rule 7: only what is divided behind a test", !isDivision || isGuarded, true);
        return super.visitBinary(tree, nothing);
    }

    private String lastMethod() {
        String name = methods.isEmpty() ? "" : methods.peek();
        return name.substring(name.lastIndexOf('.') + 1);
    }
}
