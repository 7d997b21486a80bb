import com.sun.source.tree.BinaryTree;
import com.sun.source.tree.BlockTree;
import com.sun.source.tree.ClassTree;
import com.sun.source.tree.DoWhileLoopTree;
import com.sun.source.tree.ExpressionTree;
import com.sun.source.tree.ForLoopTree;
import com.sun.source.tree.LiteralTree;
import com.sun.source.tree.MethodInvocationTree;
import com.sun.source.tree.MethodTree;
import com.sun.source.tree.NewArrayTree;
import com.sun.source.tree.NewClassTree;
import com.sun.source.tree.ThrowTree;
import com.sun.source.tree.Tree;
import com.sun.source.tree.VariableTree;
import com.sun.source.tree.WhileLoopTree;
import com.sun.source.util.TreePath;
import com.sun.source.util.TreePathScanner;
import java.io.IOException;
import java.nio.file.Files;
import java.nio.file.Path;
import java.util.EnumSet;
import java.util.LinkedHashMap;
import java.util.LinkedHashSet;
import java.util.Map;
import java.util.Set;
import javax.lang.model.element.Element;
import javax.lang.model.element.ElementKind;
import javax.lang.model.element.Modifier;
import javax.lang.model.element.VariableElement;

/** LANGUAGE.md, rule by rule, as far as the source shows it; .ci/run starts it in the project's directory. */
public final class SourceTest extends TreePathScanner<Void, Void> {
    private static final Path SOURCE = Path.of("src/main/java/SmallerTalk.java");

    // Some of these are left by the rules; the program does without them, which leaves less to look at.
    private static final Set<Tree.Kind> LEFT_OUT = EnumSet.of(
            Tree.Kind.PACKAGE, Tree.Kind.IMPORT, Tree.Kind.LAMBDA_EXPRESSION, Tree.Kind.MEMBER_REFERENCE,
            Tree.Kind.TRY, Tree.Kind.CATCH, Tree.Kind.SYNCHRONIZED, Tree.Kind.ASSERT, Tree.Kind.INSTANCE_OF,
            Tree.Kind.ENUM, Tree.Kind.RECORD, Tree.Kind.INTERFACE, Tree.Kind.ANNOTATION);
    private static final Set<String> NUMBERS = Set.of("int", "long", "boolean", "double", "int[]");
    private static final Set<String> THROWN = Set.of(
            "IllegalArgumentException", "IllegalStateException", "IndexOutOfBoundsException");
    private static final Set<String> LIBRARY = Set.of("java.lang.Math.min(int,int)", "java.lang.Math.max(int,int)");

    private static final int MOST_PARAMETERS = 7;
    private static final int MOST_LINES = 60;
    private static final int DEEPEST = 8;
    private static final int MOST_CLASSES = 12;
    private static final int MOST_FIELDS = 20;

    private static final Checks CHECKS = new Checks();

    private final SourceTree source;
    private final Map<Element, Set<Element>> calls = new LinkedHashMap<>();
    private int classes = 0;
    private MethodTree method = null;

    private SourceTest(SourceTree source) {
        this.source = source;
    }

    public static void main(String[] args) throws IOException {
        signs();
        SourceTest test = new SourceTest(new SourceTree(SOURCE));
        test.scan(test.source.unit(), null);
        CHECKS.due("11: some twelve classes at most", test.classes <= MOST_CLASSES, true);
        CHECKS.due("methods are found", test.calls.size() > 36, true);
        for (Element called : test.calls.keySet()) {
            CHECKS.due("11: " + called + " goes at most eight deep", test.depth(called, 1) <= DEEPEST, true);
        }
        CHECKS.end();
    }

    private static void signs() throws IOException {
        for (String line : Files.readAllLines(SOURCE)) {
            CHECKS.due("4: signs 32 to 126 in " + line, line.chars().allMatch(c -> c >= 32 && c < 127), true);
        }
    }

    private void rule(int number, String what, Tree tree, boolean kept) {
        CHECKS.due(number + ": " + what + ", line " + source.firstLine(tree), kept, true);
    }

    // One who calls itself, by others too, comes out too deep.
    private int depth(Element called, int above) {
        int deepest = above;
        if (above <= DEEPEST) {
            for (Element next : calls.getOrDefault(called, Set.of())) {
                deepest = Math.max(deepest, depth(next, above + 1));
            }
        }
        return deepest;
    }

    private boolean inConstructor() {
        return method != null && method.getReturnType() == null;
    }

    @Override
    public Void scan(Tree tree, Void nothing) {
        if (tree != null && LEFT_OUT.contains(tree.getKind())) {
            rule(2, tree.getKind() + " is left out", tree, false);
        }
        return super.scan(tree, nothing);
    }

    @Override
    public Void visitClass(ClassTree type, Void nothing) {
        classes++;
        boolean outermost = getCurrentPath().getParentPath().getLeaf() == source.unit();
        Set<Modifier> how = type.getModifiers().getFlags();
        Modifier seen = outermost ? Modifier.PUBLIC : Modifier.PRIVATE;
        rule(1, type.getSimpleName() + " is " + seen, type, how.contains(seen));
        rule(2, type.getSimpleName() + " is static", type, outermost || how.contains(Modifier.STATIC));
        rule(2, type.getSimpleName() + " is in no method", type, method == null);
        int fields = 0;
        for (Tree member : type.getMembers()) {
            boolean field = member instanceof VariableTree variable && !isStatic(variable);
            fields += field ? 1 : 0;
            rule(5, "no initialiser block", member, !(member instanceof BlockTree));
        }
        rule(11, type.getSimpleName() + " has some twenty fields at most", type, fields <= MOST_FIELDS);
        return super.visitClass(type, nothing);
    }

    private static boolean isStatic(VariableTree variable) {
        return variable.getModifiers().getFlags().contains(Modifier.STATIC);
    }

    @Override
    public Void visitVariable(VariableTree variable, Void nothing) {
        VariableElement element = (VariableElement) source.element(getCurrentPath());
        rule(3, "the type of " + variable, variable, isLeft(element.asType().toString()));
        rule(5, variable + " is a constant if static", variable, !isStatic(variable) || element.getConstantValue() != null);
        return super.visitVariable(variable, nothing);
    }

    private static boolean isLeft(String type) {
        return NUMBERS.contains(type) || type.startsWith("SmallerTalk.");
    }

    @Override
    public Void visitMethod(MethodTree made, Void nothing) {
        method = made;
        Element element = source.element(getCurrentPath());
        calls.put(element, new LinkedHashSet<>());
        rule(11, element + " has at most seven parameters", made, made.getParameters().size() <= MOST_PARAMETERS);
        long lines = source.lastLine(made) - source.firstLine(made) + 1;
        rule(11, element + " has some sixty lines at most", made, lines <= MOST_LINES);
        super.visitMethod(made, nothing);
        method = null;
        return null;
    }

    @Override
    public Void visitMethodInvocation(MethodInvocationTree call, Void nothing) {
        Element called = source.element(getCurrentPath());
        String owner = called.getEnclosingElement().toString();
        boolean own = owner.equals("SmallerTalk") || owner.startsWith("SmallerTalk.");
        boolean base = inConstructor() && called.getKind() == ElementKind.CONSTRUCTOR;
        rule(4, "the call " + call, call, own || base || LIBRARY.contains(owner + "." + called));
        if (own && method != null) {
            calls.get(source.element(pathOfMethod())).add(called);
        }
        return super.visitMethodInvocation(call, nothing);
    }

    private TreePath pathOfMethod() {
        TreePath path = getCurrentPath();
        while (path.getLeaf() != method) {
            path = path.getParentPath();
        }
        return path;
    }

    @Override
    public Void visitThrow(ThrowTree thrown, Void nothing) {
        boolean made = thrown.getExpression() instanceof NewClassTree;
        rule(6, "throw new", thrown, made);
        rule(6, "no throw in a constructor", thrown, !inConstructor());
        if (thrown.getExpression() instanceof NewClassTree exception) {
            rule(6, "an exception of the list", thrown, THROWN.contains(exception.getIdentifier().toString()));
            rule(6, "a written text", thrown, exception.getArguments().stream().allMatch(LiteralTree.class::isInstance));
        }
        return super.visitThrow(thrown, nothing);
    }

    // A call that made objects would add them up: 512 calls of each object share one room.
    @Override
    public Void visitNewClass(NewClassTree made, Void nothing) {
        boolean exception = getCurrentPath().getParentPath().getLeaf() instanceof ThrowTree;
        rule(12, made + " in a constructor", made, exception || inConstructor());
        return super.visitNewClass(made, nothing);
    }

    @Override
    public Void visitNewArray(NewArrayTree made, Void nothing) {
        rule(12, made + " in a constructor", made, inConstructor());
        return super.visitNewArray(made, nothing);
    }

    @Override
    public Void visitBinary(BinaryTree two, Void nothing) {
        if (two.getKind() == Tree.Kind.PLUS) {
            String type = source.type(getCurrentPath()).toString();
            rule(10, "no texts joined by +", two, NUMBERS.contains(type));
        }
        if (two.getKind() == Tree.Kind.DIVIDE || two.getKind() == Tree.Kind.REMAINDER) {
            rule(7, "the divisor of " + two + " is looked at", two, isLookedAt(two.getRightOperand()));
        }
        return super.visitBinary(two, nothing);
    }

    /** Whether the divisor is a constant, or its method compares it. */
    private boolean isLookedAt(ExpressionTree divisor) {
        Element element = source.element(new TreePath(getCurrentPath(), divisor));
        if (element instanceof VariableElement variable && variable.getConstantValue() != null) {
            return !variable.getConstantValue().equals(0);
        }
        String text = divisor.toString().replaceAll("\\(\\w+\\)", "");
        return method.getBody().toString().matches("(?s).*(?<![.\\w]|[%/] )" + text + " (<|==|!=) .*");
    }

    @Override
    public Void visitForLoop(ForLoopTree loop, Void nothing) {
        rule(9, "an end of the loop", loop, LoopEnd.ofFor(loop.getCondition(), loop.getUpdate(), loop.getStatement()));
        return super.visitForLoop(loop, nothing);
    }

    @Override
    public Void visitWhileLoop(WhileLoopTree loop, Void nothing) {
        rule(9, "an end of the loop", loop, LoopEnd.ofWhile(loop.getCondition(), loop.getStatement()));
        return super.visitWhileLoop(loop, nothing);
    }

    @Override
    public Void visitDoWhileLoop(DoWhileLoopTree loop, Void nothing) {
        rule(9, "an end of the loop", loop, LoopEnd.ofWhile(loop.getCondition(), loop.getStatement()));
        return super.visitDoWhileLoop(loop, nothing);
    }
}
