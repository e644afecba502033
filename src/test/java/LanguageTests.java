import com.sun.source.tree.AssertTree;
import com.sun.source.tree.ClassTree;
import com.sun.source.tree.CompilationUnitTree;
import com.sun.source.tree.ExpressionTree;
import com.sun.source.tree.LambdaExpressionTree;
import com.sun.source.tree.LiteralTree;
import com.sun.source.tree.MemberReferenceTree;
import com.sun.source.tree.MethodInvocationTree;
import com.sun.source.tree.MethodTree;
import com.sun.source.tree.NewArrayTree;
import com.sun.source.tree.NewClassTree;
import com.sun.source.tree.SynchronizedTree;
import com.sun.source.tree.ThrowTree;
import com.sun.source.tree.Tree;
import com.sun.source.tree.TryTree;
import com.sun.source.tree.TypeCastTree;
import com.sun.source.tree.VariableTree;
import com.sun.source.util.JavacTask;
import com.sun.source.util.TreePathScanner;
import com.sun.source.util.Trees;
import java.io.IOException;
import java.nio.charset.StandardCharsets;
import java.nio.file.Files;
import java.nio.file.Path;
import java.util.LinkedHashMap;
import java.util.LinkedHashSet;
import java.util.List;
import java.util.Map;
import java.util.Set;
import java.util.TreeSet;
import javax.lang.model.element.Element;
import javax.lang.model.element.ElementKind;
import javax.lang.model.element.Modifier;
import javax.tools.JavaCompiler;
import javax.tools.StandardJavaFileManager;
import javax.tools.ToolProvider;

/**
 * The class keeps to ../shared/LANGUAGE.md, as far as a program can tell from the source. It is
 * stricter than the rules where the class needs less than they allow: no try, no recursion, and
 * calls make nothing but exceptions.
 */
public final class LanguageTests extends TreePathScanner<Void, Void> {
    private static final Checks CHECKS = new Checks();
    private static final int MOST_CLASSES = 12;
    private static final int MOST_FIELDS = 20;
    private static final int MOST_PARAMETERS = 7;
    private static final int MOST_LINES = 60;
    private static final int MOST_DEPTH = 8;
    /** What the class uses of rule 4's library. */
    private static final Set<String> LIBRARY = Set.of("java.lang.Math.max(int,int)", "java.lang.Math.min(int,int)",
            "java.lang.Math.abs(int)", "java.util.Arrays.fill(int[],int)",
            "java.lang.System.arraycopy(java.lang.Object,int,java.lang.Object,int,int)");
    private static final Set<String> EXCEPTIONS = Set.of("IllegalStateException", "IllegalArgumentException",
            "IndexOutOfBoundsException", "ArithmeticException", "UnsupportedOperationException",
            "NoSuchElementException", "RuntimeException");
    private static final Set<String> TYPES = Set.of("int", "long", "boolean", "char", "double", "int[]");

    private final Trees trees;
    private final CompilationUnitTree unit;
    private final Map<Element, Set<Element>> calls = new LinkedHashMap<>();
    private final Set<String> own = new TreeSet<>();
    private Element method;
    private boolean making;

    private LanguageTests(Trees trees, CompilationUnitTree unit) {
        this.trees = trees;
        this.unit = unit;
    }

    public static void main(String[] args) throws IOException {
        Path file = Path.of(System.getProperty("root", "."), "src/main/java/OccupancyMonitor.java");
        JavaCompiler compiler = ToolProvider.getSystemJavaCompiler();
        try (StandardJavaFileManager files = compiler.getStandardFileManager(null, null, StandardCharsets.UTF_8)) {
            JavacTask task = (JavacTask) compiler.getTask(null, files, null, List.of("--release", "17"), null,
                    files.getJavaFileObjects(file));
            CompilationUnitTree unit = task.parse().iterator().next();
            task.analyze();
            new LanguageTests(Trees.instance(task), unit).test();
        }
        signs(Files.readAllBytes(file));
        CHECKS.finish();
    }

    private void test() {
        CHECKS.due("the package lines", unit.getPackageName() == null ? 0 : 1, 0);
        CHECKS.due("the classes of the file", unit.getTypeDecls().size(), 1);
        collectOwn((ClassTree) unit.getTypeDecls().get(0));
        atMost("the number of classes", own.size(), MOST_CLASSES);
        scan(unit, null);
        for (Element each : calls.keySet()) {
            atMost("rule 11: the depth of the calls of " + each, depth(each, 1), MOST_DEPTH);
        }
    }

    private static void signs(byte[] bytes) {
        int strange = 0;
        for (byte sign : bytes) {
            strange += sign < 1 ? 1 : 0;
        }
        CHECKS.due("rule 4: signs that are not 1 to 127", strange, 0);
    }

    private static void atMost(String what, int got, int most) {
        CHECKS.dueText(what, got <= most ? "at most " + most : "" + got, "at most " + most);
    }

    private void forbid(String rule, Tree tree) {
        long place = trees.getSourcePositions().getStartPosition(unit, tree);
        String line = "line " + unit.getLineMap().getLineNumber(place);
        CHECKS.dueText(rule + ", " + line + ": " + tree.toString().split("\n")[0], "stands there", "is not there");
    }

    private void collectOwn(ClassTree tree) {
        own.add(tree.getSimpleName().toString());
        for (Tree member : tree.getMembers()) {
            if (member instanceof ClassTree inside) {
                collectOwn(inside);
            }
        }
    }

    private int lines(Tree tree) {
        long start = trees.getSourcePositions().getStartPosition(unit, tree);
        long end = trees.getSourcePositions().getEndPosition(unit, tree);
        return (int) (unit.getLineMap().getLineNumber(end) - unit.getLineMap().getLineNumber(start) + 1);
    }

    /** A depth past the greatest one that is allowed need not be told exactly: it may be endless. */
    private int depth(Element from, int level) {
        int deepest = level;
        for (Element to : level > MOST_DEPTH ? Set.<Element>of() : calls.getOrDefault(from, Set.of())) {
            deepest = Math.max(deepest, depth(to, level + 1));
        }
        return deepest;
    }

    private Element present() {
        return trees.getElement(getCurrentPath());
    }

    @Override
    public Void visitClass(ClassTree tree, Void none) {
        int fields = 0;
        for (Tree member : tree.getMembers()) {
            boolean field = member instanceof VariableTree variable
                    && !variable.getModifiers().getFlags().contains(Modifier.STATIC);
            fields += field ? 1 : 0;
            if (member.getKind() == Tree.Kind.BLOCK) {
                forbid("rule 5, initialiser block", member);
            }
        }
        atMost("rule 11: the fields of " + tree.getSimpleName(), fields, MOST_FIELDS);
        Element outer = method;
        making = true;
        super.visitClass(tree, none);
        method = outer;
        return null;
    }

    @Override
    public Void visitMethod(MethodTree tree, Void none) {
        Element outer = method;
        boolean wasMaking = making;
        method = present();
        making = method.getKind() == ElementKind.CONSTRUCTOR;
        calls.computeIfAbsent(method, key -> new LinkedHashSet<>());
        atMost("rule 11: the parameters of " + method, tree.getParameters().size(), MOST_PARAMETERS);
        atMost("rule 11: the lines of " + method, lines(tree), MOST_LINES);
        super.visitMethod(tree, none);
        method = outer;
        making = wasMaking;
        return null;
    }

    @Override
    public Void visitVariable(VariableTree tree, Void none) {
        String type = String.valueOf(tree.getType());
        if (!TYPES.contains(type) && !own.contains(type.replace("[]", ""))) {
            forbid("rule 3, type", tree);
        }
        Set<Modifier> flags = tree.getModifiers().getFlags();
        if (flags.contains(Modifier.STATIC) && !(flags.contains(Modifier.FINAL) && constant(tree))) {
            forbid("rule 5, static field", tree);
        }
        return super.visitVariable(tree, none);
    }

    private static boolean constant(VariableTree tree) {
        boolean number = Set.of("int", "long").contains(tree.getType().toString());
        ExpressionTree value = tree.getInitializer();
        boolean literal = value instanceof LiteralTree || value != null && value.toString().matches("-\\d+");
        return number && literal;
    }

    @Override
    public Void visitMethodInvocation(MethodInvocationTree tree, Void none) {
        Element called = present();
        Element owner = called.getEnclosingElement();
        if (own.contains(owner.getSimpleName().toString())) {
            calls.computeIfAbsent(method, key -> new LinkedHashSet<>()).add(called);
        } else if (called.getKind() != ElementKind.CONSTRUCTOR && !LIBRARY.contains(owner + "." + called)) {
            forbid("rule 4, library", tree);
        }
        return super.visitMethodInvocation(tree, none);
    }

    @Override
    public Void visitNewClass(NewClassTree tree, Void none) {
        boolean exception = EXCEPTIONS.contains(tree.getIdentifier().toString());
        if (!exception && !(making && own.contains(tree.getIdentifier().toString()))) {
            forbid("rule 12, new outside of a constructor", tree);
        }
        for (ExpressionTree argument : tree.getArguments()) {
            if (making && handsOut(argument)) {
                forbid("rule 12, a constructor hands out a part of its object", tree);
            }
        }
        return super.visitNewClass(tree, none);
    }

    private boolean handsOut(ExpressionTree argument) {
        Element given = trees.getElement(trees.getPath(unit, argument));
        return given != null && !given.getModifiers().contains(Modifier.STATIC)
                && (given.getKind() == ElementKind.FIELD || argument.toString().equals("this"));
    }

    @Override
    public Void visitNewArray(NewArrayTree tree, Void none) {
        if (!making) {
            forbid("rule 12, new outside of a constructor", tree);
        }
        return super.visitNewArray(tree, none);
    }

    @Override
    public Void visitThrow(ThrowTree tree, Void none) {
        boolean plain = tree.getExpression() instanceof NewClassTree made
                && EXCEPTIONS.contains(made.getIdentifier().toString())
                && made.getArguments().stream().allMatch(each -> each instanceof LiteralTree);
        if (!plain || making) {
            forbid("rule 6, throw", tree);
        }
        return super.visitThrow(tree, none);
    }

    @Override
    public Void visitTry(TryTree tree, Void none) {
        forbid("rule 6, try", tree);
        return super.visitTry(tree, none);
    }

    @Override
    public Void visitAssert(AssertTree tree, Void none) {
        forbid("rule 6, assert", tree);
        return super.visitAssert(tree, none);
    }

    @Override
    public Void visitSynchronized(SynchronizedTree tree, Void none) {
        forbid("rule 6, synchronized", tree);
        return super.visitSynchronized(tree, none);
    }

    @Override
    public Void visitLambdaExpression(LambdaExpressionTree tree, Void none) {
        forbid("rule 2, lambda", tree);
        return super.visitLambdaExpression(tree, none);
    }

    @Override
    public Void visitMemberReference(MemberReferenceTree tree, Void none) {
        forbid("rule 2, method reference", tree);
        return super.visitMemberReference(tree, none);
    }

    @Override
    public Void visitTypeCast(TypeCastTree tree, Void none) {
        if (!tree.getType().toString().equals("double")) {
            forbid("rule 6, cast", tree);
        }
        return super.visitTypeCast(tree, none);
    }
}
