import com.sun.source.tree.*;
import com.sun.source.util.JavacTask;
import com.sun.source.util.SourcePositions;
import com.sun.source.util.TreePath;
import com.sun.source.util.TreePathScanner;
import com.sun.source.util.Trees;
import java.io.IOException;
import java.nio.file.Files;
import java.nio.file.Path;
import java.util.ArrayDeque;
import java.util.Deque;
import java.util.HashMap;
import java.util.List;
import java.util.Map;
import java.util.Set;
import java.util.TreeSet;
import javax.lang.model.element.Element;
import javax.lang.model.element.ElementKind;
import javax.lang.model.element.ExecutableElement;
import javax.lang.model.element.Modifier;
import javax.lang.model.element.TypeElement;
import javax.lang.model.type.ArrayType;
import javax.lang.model.type.DeclaredType;
import javax.lang.model.type.TypeKind;
import javax.lang.model.type.TypeMirror;
import javax.tools.JavaCompiler;
import javax.tools.StandardJavaFileManager;
import javax.tools.ToolProvider;

/** The rules of LANGUAGE.md that the source itself can be asked about; RulesTest asks the compiled class. */
public final class LanguageTest extends TreePathScanner<Void, Void> {
    private static final int MAX_LINE = 120;
    private static final int MAX_METHOD_LINES = 60;
    private static final int MAX_PARAMETERS = 7;
    private static final int MAX_DEPTH = 8;
    private static final int MAX_CLASSES = 12;
    private static final int MAX_FIELDS = 20;

    /** Rule 4, as far as the class uses it: a new one belongs here only if LANGUAGE.md lists it. */
    private static final Set<String> LIBRARY = Set.of("String.length", "String.charAt", "Math.abs", "Math.max",
            "Math.min", "Integer.bitCount", "Long.bitCount", "Long.numberOfTrailingZeros", "System.arraycopy");
    private static final Set<String> THROWN = Set.of("IllegalStateException", "IllegalArgumentException",
            "IndexOutOfBoundsException", "ArithmeticException", "UnsupportedOperationException",
            "NoSuchElementException", "RuntimeException");
    private static final Set<TypeKind> NUMBERS = Set.of(TypeKind.INT, TypeKind.LONG, TypeKind.SHORT, TypeKind.BYTE,
            TypeKind.CHAR, TypeKind.BOOLEAN);
    /** Rules 2, 6 and 9: none of these is needed; while and do are fine, but a for shows its end best. */
    private static final Set<Tree.Kind> NEVER = Set.of(Tree.Kind.LAMBDA_EXPRESSION, Tree.Kind.MEMBER_REFERENCE,
            Tree.Kind.TRY, Tree.Kind.CATCH, Tree.Kind.ASSERT, Tree.Kind.SYNCHRONIZED, Tree.Kind.IMPORT,
            Tree.Kind.PACKAGE, Tree.Kind.WHILE_LOOP, Tree.Kind.DO_WHILE_LOOP, Tree.Kind.TYPE_CAST,
            Tree.Kind.INSTANCE_OF, Tree.Kind.DOUBLE_LITERAL, Tree.Kind.FLOAT_LITERAL);

    private final CompilationUnitTree unit;
    private final Trees trees;
    private final SourcePositions positions;
    private final Map<ExecutableElement, Set<ExecutableElement>> calls = new HashMap<>();
    private final Map<ExecutableElement, String> parameters = new HashMap<>();
    private final Deque<ExecutableElement> open = new ArrayDeque<>();
    private int classes = 0;

    private LanguageTest(CompilationUnitTree unit, Trees trees) {
        this.unit = unit;
        this.trees = trees;
        positions = trees.getSourcePositions();
    }

    private long lineOf(long position) {
        return unit.getLineMap().getLineNumber(position);
    }

    private String at(Tree tree) {
        return "line " + lineOf(positions.getStartPosition(unit, tree));
    }

    private static void holds(String what, boolean so) {
        Probe.due(what, so, true);
    }

    private Element elementOf(Tree tree) {
        return trees.getElement(TreePath.getPath(unit, tree));
    }

    @Override
    public Void scan(Tree tree, Void none) {
        if (tree != null) {
            holds(at(tree) + ": no " + tree.getKind(), !NEVER.contains(tree.getKind()));
        }
        return super.scan(tree, none);
    }

    // ---- rules 2, 5 and 11: classes and their fields

    @Override
    public Void visitClass(ClassTree tree, Void none) {
        classes++;
        int fields = 0;
        for (Tree member : tree.getMembers()) {
            if (member instanceof VariableTree field) {
                Set<Modifier> flags = field.getModifiers().getFlags();
                boolean constant = flags.contains(Modifier.STATIC);
                fields += constant ? 0 : 1;
                holds(at(field) + ": a static field is a final constant", !constant || flags.contains(Modifier.FINAL)
                        && elementOf(field) instanceof javax.lang.model.element.VariableElement v
                        && v.getConstantValue() != null);
            }
            holds(at(member) + ": no initialiser block", member.getKind() != Tree.Kind.BLOCK);
        }
        holds(tree.getSimpleName() + " has " + fields + " fields: at most " + MAX_FIELDS, fields <= MAX_FIELDS);
        boolean outer = getCurrentPath().getParentPath().getLeaf() == unit;
        holds(tree.getSimpleName() + " is the class of the file, or static in it and private", outer
                || tree.getModifiers().getFlags().containsAll(Set.of(Modifier.STATIC, Modifier.PRIVATE)));
        return super.visitClass(tree, none);
    }

    // ---- rules 3, 8 and 11: methods, their parameters and lengths

    @Override
    public Void visitMethod(MethodTree tree, Void none) {
        ExecutableElement method = (ExecutableElement) elementOf(tree);
        long first = lineOf(positions.getStartPosition(unit, tree));
        long last = lineOf(positions.getEndPosition(unit, tree));
        String name = method.getEnclosingElement().getSimpleName() + "." + method.getSimpleName();
        holds(name + " is short", last - first < MAX_METHOD_LINES);
        holds(name + " has few parameters", tree.getParameters().size() <= MAX_PARAMETERS);
        calls.put(method, new java.util.LinkedHashSet<>());
        parameters.put(method, method.getParameters().toString());
        open.push(method);
        super.visitMethod(tree, none);
        open.pop();
        return null;
    }

    private static boolean isOwn(Element type) {
        Element outermost = type;
        while (outermost.getEnclosingElement() instanceof TypeElement around) {
            outermost = around;
        }
        return outermost.getSimpleName().contentEquals("GalleryGuards");
    }

    private static boolean isAllowed(TypeMirror type) {
        if (type instanceof ArrayType array) {
            TypeMirror inside = array.getComponentType();
            return NUMBERS.contains(inside.getKind()) || inside instanceof DeclaredType d && isOwn(d.asElement());
        }
        return NUMBERS.contains(type.getKind()) || type instanceof DeclaredType d
                && (isOwn(d.asElement()) || d.toString().equals("java.lang.String"));
    }

    @Override
    public Void visitVariable(VariableTree tree, Void none) {
        holds(at(tree) + ": the type of " + tree.getName(), isAllowed(elementOf(tree).asType()));
        return super.visitVariable(tree, none);
    }

    // ---- rules 4, 6, 10 and 12: calls, objects and exceptions

    @Override
    public Void visitMethodInvocation(MethodInvocationTree tree, Void none) {
        ExecutableElement called = (ExecutableElement) elementOf(tree);
        Element owner = called.getEnclosingElement();
        if (called.getKind() == ElementKind.CONSTRUCTOR) {
            holds(at(tree) + ": only the compiler's own super()", tree.getArguments().isEmpty());
        } else if (isOwn(owner)) {
            if (!open.isEmpty()) {
                calls.get(open.peek()).add(called);
            }
        } else {
            String name = owner.getSimpleName() + "." + called.getSimpleName();
            holds(at(tree) + ": " + name + " is of the library that is listed", LIBRARY.contains(name));
        }
        return super.visitMethodInvocation(tree, none);
    }

    private boolean standsInMaking() {
        return open.isEmpty() || open.peek().getKind() == ElementKind.CONSTRUCTOR;
    }

    @Override
    public Void visitNewClass(NewClassTree tree, Void none) {
        boolean thrown = getCurrentPath().getParentPath().getLeaf().getKind() == Tree.Kind.THROW;
        holds(at(tree) + ": objects are made by constructors, all others are thrown", thrown || standsInMaking());
        holds(at(tree) + ": no class without a name", tree.getClassBody() == null);
        return super.visitNewClass(tree, none);
    }

    @Override
    public Void visitNewArray(NewArrayTree tree, Void none) {
        holds(at(tree) + ": rows are made by constructors", standsInMaking());
        return super.visitNewArray(tree, none);
    }

    @Override
    public Void visitThrow(ThrowTree tree, Void none) {
        holds(at(tree) + ": no throw in a constructor", !standsInMaking());
        boolean written = tree.getExpression() instanceof NewClassTree made
                && THROWN.contains(made.getIdentifier().toString()) && made.getArguments().size() == 1
                && made.getArguments().get(0).getKind() == Tree.Kind.STRING_LITERAL;
        holds(at(tree) + ": throws a new exception of the list with a written text", written);
        return super.visitThrow(tree, none);
    }

    @Override
    public Void visitBinary(BinaryTree tree, Void none) {
        TypeMirror type = trees.getTypeMirror(getCurrentPath());
        holds(at(tree) + ": numbers are joined, never texts", NUMBERS.contains(type.getKind()));
        return super.visitBinary(tree, none);
    }

    // ---- rule 9

    @Override
    public Void visitForLoop(ForLoopTree tree, Void none) {
        boolean counts = tree.getCondition() != null && tree.getUpdate().size() == 1
                && tree.getInitializer().size() == 1;
        holds(at(tree) + ": a counter against a bound", counts);
        return super.visitForLoop(tree, none);
    }

    // ---- rules 8 and 11: how deep calls go

    /** The longest chain of calls from a method on; a method that calls itself must carry its depth. */
    private int depthOf(ExecutableElement method, Deque<ExecutableElement> chain) {
        if (chain.contains(method)) {
            holds(method + " is in a circle of calls: only itself", chain.peek().equals(method));
            holds(method + " carries its depth", parameters.get(method).contains("depth"));
            return 0;
        }
        chain.push(method);
        int deepest = 0;
        for (ExecutableElement next : calls.get(method)) {
            deepest = Math.max(deepest, depthOf(next, chain));
        }
        chain.pop();
        return deepest + 1;
    }

    private void callDepths() {
        int deepest = 0;
        for (ExecutableElement method : calls.keySet()) {
            deepest = Math.max(deepest, depthOf(method, new ArrayDeque<>()));
        }
        holds("calls go " + deepest + " deep: at most " + MAX_DEPTH, deepest <= MAX_DEPTH);
        holds("calls were found", deepest > 2);
    }

    private void wholeFile(Path file) throws IOException {
        holds("one class in the file", unit.getTypeDecls().size() == 1);
        holds(classes + " classes: at most " + MAX_CLASSES, classes <= MAX_CLASSES && classes > 1);
        int number = 0;
        for (String line : Files.readAllLines(file)) {
            number++;
            holds("line " + number + " is not long", line.length() <= MAX_LINE);
            holds("line " + number + " has plain signs", line.chars().allMatch(c -> c >= ' ' && c < 127));
        }
        Set<String> unused = new TreeSet<>();
        for (ExecutableElement method : calls.keySet()) {
            boolean called = calls.values().stream().anyMatch(c -> c.contains(method));
            boolean face = method.getModifiers().contains(Modifier.PUBLIC);
            if (!called && !face && method.getKind() == ElementKind.METHOD) {
                unused.add(method.toString());
            }
        }
        Probe.due("methods that nobody calls", unused, "[]");
    }

    public static void main(String[] args) throws IOException {
        Path file = Path.of(System.getProperty("root", "."), "src/main/java/GalleryGuards.java");
        JavaCompiler compiler = ToolProvider.getSystemJavaCompiler();
        try (StandardJavaFileManager files = compiler.getStandardFileManager(null, null, null)) {
            JavacTask task = (JavacTask) compiler.getTask(null, files, null, List.of("-proc:none"), null,
                    files.getJavaFileObjects(file));
            CompilationUnitTree unit = task.parse().iterator().next();
            task.analyze();
            LanguageTest test = new LanguageTest(unit, Trees.instance(task));
            test.scan(unit, null);
            test.callDepths();
            test.wholeFile(file);
        }
        Probe.end("LanguageTest");
    }
}
