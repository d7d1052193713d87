import com.sun.source.tree.BinaryTree;
import com.sun.source.tree.BlockTree;
import com.sun.source.tree.ClassTree;
import com.sun.source.tree.CompilationUnitTree;
import com.sun.source.tree.DoWhileLoopTree;
import com.sun.source.tree.ExpressionTree;
import com.sun.source.tree.ForLoopTree;
import com.sun.source.tree.LiteralTree;
import com.sun.source.tree.MethodInvocationTree;
import com.sun.source.tree.MethodTree;
import com.sun.source.tree.NewArrayTree;
import com.sun.source.tree.NewClassTree;
import com.sun.source.tree.Tree;
import com.sun.source.tree.VariableTree;
import com.sun.source.tree.WhileLoopTree;
import com.sun.source.util.JavacTask;
import com.sun.source.util.TreePath;
import com.sun.source.util.TreePathScanner;
import com.sun.source.util.Trees;
import java.io.IOException;
import java.nio.file.Path;
import java.util.HashMap;
import java.util.LinkedHashSet;
import java.util.List;
import java.util.Map;
import java.util.Set;
import javax.lang.model.element.Element;
import javax.lang.model.element.ElementKind;
import javax.lang.model.element.Modifier;
import javax.lang.model.type.ArrayType;
import javax.lang.model.type.TypeKind;
import javax.lang.model.type.TypeMirror;
import javax.tools.JavaCompiler;
import javax.tools.StandardJavaFileManager;
import javax.tools.ToolProvider;

/** Those rules of ../shared/LANGUAGE.md for which the source is to be read as the compiler reads it. */
public final class LanguageTest extends TreePathScanner<Void, Void> {
    private static final String SOURCE = "src/main/java/PulledPanels.java";
    private static final String CLASS = "PulledPanels";
    private static final int DEEPEST = 8;
    private static final int LONGEST = 60;
    private static final Set<Tree.Kind> FORBIDDEN = Set.of(Tree.Kind.THROW, Tree.Kind.TRY, Tree.Kind.CATCH,
        Tree.Kind.SYNCHRONIZED, Tree.Kind.ASSERT, Tree.Kind.LAMBDA_EXPRESSION, Tree.Kind.MEMBER_REFERENCE,
        Tree.Kind.PACKAGE);
    private static final Set<String> TYPES = Set.of("java.lang.String", "java.lang.StringBuilder", "java.lang.Integer",
        "java.util.ArrayList", "java.util.List", "java.util.Iterator", "java.lang.Iterable", "java.lang.Comparable");
    private static final Map<String, Set<String>> LIBRARY = Map.of(
        "java.lang.String", Set.of("length", "charAt", "isEmpty", "equals", "indexOf", "substring", "toCharArray", "<init>"),
        "java.lang.StringBuilder", Set.of("<init>", "append", "charAt", "setCharAt", "setLength", "deleteCharAt", "reverse",
            "length", "toString"),
        "java.util.ArrayList", Set.of("<init>", "add", "get", "set", "remove", "size", "isEmpty", "clear"),
        "java.util.List", Set.of("of", "add", "get", "set", "remove", "size", "isEmpty", "clear"),
        "java.util.Arrays", Set.of("copyOf", "copyOfRange", "fill"),
        "java.lang.System", Set.of("arraycopy"),
        "Array", Set.of("clone"),
        "java.lang.Object", Set.of("<init>"),
        "java.lang.Enum", Set.of("<init>"),
        "java.lang.Record", Set.of("<init>"));
    private static final Set<String> NUMBERS = Set.of("java.lang.Integer", "java.lang.Long", "java.lang.Math");
    private static final Set<String> STATIC_TYPES = Set.of("int", "long", "boolean", "char", "java.lang.String");
    private static final Set<String> STATIC_ROWS = Set.of("int[]", "long[]", "char[]", "byte[]");
    private static final Set<String> ENUM_TYPES = Set.of("int", "long", "boolean", "java.lang.String");
    private static final Set<String> COMPARED_BY_EQUALS = Set.of("java.lang.String", "java.lang.Integer");
    private static final Set<String> NOT_OWN = Set.of("equals", "hashCode", "toString");

    private final Trees trees;
    private final Map<Element, Set<Element>> callsOf = new HashMap<>();

    private LanguageTest(Trees trees) {
        this.trees = trees;
    }

    public static void main(String[] args) throws IOException {
        Check.part("language");
        JavaCompiler compiler = ToolProvider.getSystemJavaCompiler();
        try (StandardJavaFileManager files = compiler.getStandardFileManager(null, null, null)) {
            JavacTask task = (JavacTask) compiler.getTask(null, files, null, List.of("-proc:none"), null,
                files.getJavaFileObjects(Path.of(args.length > 0 ? args[0] : SOURCE)));
            Iterable<? extends CompilationUnitTree> units = task.parse();
            task.analyze();
            LanguageTest test = new LanguageTest(Trees.instance(task));
            for (CompilationUnitTree unit : units) {
                test.scan(unit, null);
            }
            test.depths();
        }
        Check.end();
    }

    @Override
    public Void scan(Tree tree, Void nothing) {
        if (tree != null && FORBIDDEN.contains(tree.getKind())) {
            Check.holds("rules 2 and 6: no " + tree.getKind() + ": " + tree, false);
        }
        return super.scan(tree, nothing);
    }

    @Override
    public Void visitClass(ClassTree type, Void nothing) {
        Tree around = getCurrentPath().getParentPath().getLeaf();
        Check.holds("rule 2: inside a class or the file: " + type.getSimpleName(),
            around instanceof ClassTree || around instanceof CompilationUnitTree);
        return super.visitClass(type, nothing);
    }

    @Override
    public Void visitBlock(BlockTree block, Void nothing) {
        Check.holds("rule 5: no static initialiser: " + block, !block.isStatic());
        return super.visitBlock(block, nothing);
    }

    @Override
    public Void visitVariable(VariableTree variable, Void nothing) {
        Element element = trees.getElement(getCurrentPath());
        Check.holds("rule 3: the type of " + variable, isAllowed(element.asType()));
        if (element.getKind() == ElementKind.FIELD && element.getModifiers().contains(Modifier.STATIC)) {
            staticField(variable, element);
        } else if (element.getKind() == ElementKind.FIELD && element.getEnclosingElement().getKind() == ElementKind.ENUM) {
            Check.holds("rule 2: an enum's field " + variable, ENUM_TYPES.contains(element.asType().toString()));
        }
        return super.visitVariable(variable, nothing);
    }

    private void staticField(VariableTree variable, Element field) {
        String type = field.asType().toString();
        boolean isWrittenOut = variable.getInitializer() instanceof NewArrayTree row && row.getInitializers() != null;
        // values() of an enum may be kept once, says rule 12
        boolean isValues = field.asType().getKind() == TypeKind.ARRAY && isOwn(type.replace("[]", ""));
        Check.holds("rule 5: final if static: " + variable, field.getModifiers().contains(Modifier.FINAL));
        Check.holds("rule 5: the type of the static " + variable,
            STATIC_TYPES.contains(type) || STATIC_ROWS.contains(type) && isWrittenOut || isValues);
    }

    private boolean isAllowed(TypeMirror type) {
        if (type.getKind() == TypeKind.ARRAY) {
            TypeMirror part = ((ArrayType) type).getComponentType();
            boolean rows = part.getKind() == TypeKind.ARRAY && ((ArrayType) part).getComponentType().getKind().isPrimitive();
            return part.getKind().isPrimitive() || rows || isOwn(part.toString());
        }
        String name = type.toString().replaceAll("<.*", "");
        return type.getKind().isPrimitive() || type.getKind() == TypeKind.TYPEVAR || isOwn(name) || TYPES.contains(name);
    }

    private static boolean isOwn(String name) {
        return name.equals(CLASS) || name.startsWith(CLASS + ".");
    }

    @Override
    public Void visitMethod(MethodTree method, Void nothing) {
        callsOf.computeIfAbsent(trees.getElement(getCurrentPath()), e -> new LinkedHashSet<>());
        Check.holds("rule 6: no own " + method.getName(), !NOT_OWN.contains(method.getName().toString()));
        Check.holds("rule 11: parameters of " + method.getName(), method.getParameters().size() <= 7);
        Check.holds("rule 11: lines of " + method.getName(), lines(method) <= LONGEST);
        return super.visitMethod(method, nothing);
    }

    private long lines(Tree tree) {
        CompilationUnitTree unit = getCurrentPath().getCompilationUnit();
        long start = trees.getSourcePositions().getStartPosition(unit, tree);
        long end = trees.getSourcePositions().getEndPosition(unit, tree);
        return end < 0 ? 1 : unit.getLineMap().getLineNumber(end) - unit.getLineMap().getLineNumber(start) + 1;
    }

    @Override
    public Void visitMethodInvocation(MethodInvocationTree call, Void nothing) {
        called(trees.getElement(getCurrentPath()));
        return super.visitMethodInvocation(call, nothing);
    }

    @Override
    public Void visitNewClass(NewClassTree made, Void nothing) {
        Check.holds("rule 2: no class without a name: " + made, made.getClassBody() == null);
        called(trees.getElement(getCurrentPath()));
        return super.visitNewClass(made, nothing);
    }

    private void called(Element method) {
        String owner = method.getEnclosingElement().toString().replaceAll("<.*", "");
        String name = method.getSimpleName().toString();
        boolean number = NUMBERS.contains(owner) && method.getModifiers().contains(Modifier.STATIC);
        boolean allowed = number ? !name.endsWith("Exact") && !name.equals("random")
            : LIBRARY.getOrDefault(owner, Set.of()).contains(name);
        Check.holds("rule 4: " + owner + "." + name, isOwn(owner) || allowed);
        callsOf.computeIfAbsent(enclosing(), e -> new LinkedHashSet<>()).add(method);
    }

    /** The method around the place, or the class where it is a field's initialiser. */
    private Element enclosing() {
        for (TreePath path = getCurrentPath(); path != null; path = path.getParentPath()) {
            Element element = trees.getElement(path);
            Tree.Kind kind = path.getLeaf().getKind();
            if (kind == Tree.Kind.METHOD || element != null && element.getKind().isClass() && kind == Tree.Kind.CLASS) {
                return element;
            }
        }
        return null;
    }

    @Override
    public Void visitForLoop(ForLoopTree loop, Void nothing) {
        Check.holds("rule 9: a loop with an end", loop.getCondition() != null);
        hasEnd(loop.getCondition());
        return super.visitForLoop(loop, nothing);
    }

    @Override
    public Void visitWhileLoop(WhileLoopTree loop, Void nothing) {
        hasEnd(loop.getCondition());
        return super.visitWhileLoop(loop, nothing);
    }

    @Override
    public Void visitDoWhileLoop(DoWhileLoopTree loop, Void nothing) {
        hasEnd(loop.getCondition());
        return super.visitDoWhileLoop(loop, nothing);
    }

    private static void hasEnd(ExpressionTree condition) {
        String text = String.valueOf(condition).replaceAll("[() ]", "");
        Check.holds("rule 9: a loop with an end: " + condition, !text.equals("true"));
    }

    @Override
    public Void visitBinary(BinaryTree binary, Void nothing) {
        String type = trees.getTypeMirror(getCurrentPath()).toString();
        Check.holds("rule 10: texts are not joined by +: " + binary, !type.equals("java.lang.String"));
        if (binary.getKind() == Tree.Kind.EQUAL_TO || binary.getKind() == Tree.Kind.NOT_EQUAL_TO) {
            boolean both = isComparedByEquals(binary.getLeftOperand()) && isComparedByEquals(binary.getRightOperand());
            Check.holds("rule 6: not compared by ==: " + binary, !both);
        }
        return super.visitBinary(binary, nothing);
    }

    private boolean isComparedByEquals(ExpressionTree operand) {
        TypeMirror type = trees.getTypeMirror(new TreePath(getCurrentPath(), operand));
        return type != null && COMPARED_BY_EQUALS.contains(type.toString());
    }

    @Override
    public Void visitLiteral(LiteralTree literal, Void nothing) {
        if (literal.getValue() instanceof String text) {
            Check.holds("rule 4: signs of " + literal, text.chars().allMatch(c -> c >= 1 && c <= 127));
        }
        return super.visitLiteral(literal, nothing);
    }

    private void depths() {
        for (Element method : callsOf.keySet()) {
            int depth = depth(method, new LinkedHashSet<>());
            Check.holds("rule 11: " + depth + " calls deep: " + method, depth <= DEEPEST);
        }
    }

    /** How many calls stand open at most, the method itself among them; a call that is open already ends it. */
    private int depth(Element method, Set<Element> open) {
        if (!open.add(method)) {
            return 0;
        }
        int deepest = 0;
        for (Element called : callsOf.getOrDefault(method, Set.of())) {
            deepest = Math.max(deepest, depth(called, open));
        }
        open.remove(method);
        return deepest + 1;
    }
}
