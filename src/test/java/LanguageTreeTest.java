import com.sun.source.tree.*;
import com.sun.source.util.JavacTask;
import com.sun.source.util.TreePath;
import com.sun.source.util.TreePathScanner;
import com.sun.source.util.Trees;
import java.io.File;
import java.io.IOException;
import java.util.ArrayList;
import java.util.HashMap;
import java.util.HashSet;
import java.util.List;
import java.util.Map;
import java.util.Set;
import java.util.TreeSet;
import javax.lang.model.element.Element;
import javax.lang.model.element.ElementKind;
import javax.lang.model.element.ExecutableElement;
import javax.lang.model.element.Modifier;
import javax.lang.model.type.TypeMirror;
import javax.tools.JavaCompiler;
import javax.tools.StandardJavaFileManager;
import javax.tools.ToolProvider;

/** What the compiler's own tree of the class tells of the part of Java that it has to keep to, rule by rule. */
public final class LanguageTreeTest extends TreePathScanner<Void, Void> {
    private static final Set<String> LIBRARY = Set.of(
            "java.lang.String.length()", "java.lang.String.charAt(int)", "java.lang.String.isEmpty()",
            "java.lang.String.indexOf(int)", "java.lang.StringBuilder.append(char)",
            "java.lang.StringBuilder.append(java.lang.String)", "java.lang.StringBuilder.append(int)",
            "java.lang.StringBuilder.setLength(int)", "java.lang.StringBuilder.length()",
            "java.lang.StringBuilder.toString()", "java.lang.Integer.bitCount(int)", "java.lang.Math.max(int,int)",
            "java.lang.Math.min(int,int)", "java.util.Arrays.fill(int[],int)", "java.util.Arrays.fill(long[],long)",
            "java.util.Arrays.copyOf(int[],int)",
            "java.lang.System.arraycopy(java.lang.Object,int,java.lang.Object,int,int)");
    private static final Set<String> PLAIN = Set.of("int", "long", "byte", "char", "boolean", "java.lang.String",
            "java.lang.StringBuilder", "int[]", "long[]", "byte[]", "char[]", "boolean[]");
    private static final Set<String> CONSTANTS = Set.of("int", "long", "boolean", "char", "java.lang.String");
    private static final Set<String> ARRAYS = Set.of("int[]", "long[]", "char[]", "byte[]");
    private static final Set<String> THROWN = Set.of("IllegalStateException", "IllegalArgumentException",
            "IndexOutOfBoundsException", "NoSuchElementException");
    private static final Set<Tree.Kind> FORBIDDEN = Set.of(Tree.Kind.TRY, Tree.Kind.LAMBDA_EXPRESSION,
            Tree.Kind.MEMBER_REFERENCE, Tree.Kind.SYNCHRONIZED, Tree.Kind.ASSERT, Tree.Kind.INSTANCE_OF,
            Tree.Kind.DIVIDE_ASSIGNMENT, Tree.Kind.REMAINDER_ASSIGNMENT);
    private static final int DEEPEST = 8;

    private final Trees trees;
    private final Map<Element, Set<Element>> calls = new HashMap<>();
    private final Set<String> faults = new TreeSet<>();
    private Element method;
    private int loops;

    private LanguageTreeTest(Trees trees) {
        this.trees = trees;
    }

    public static void main(String[] args) throws IOException {
        JavaCompiler compiler = ToolProvider.getSystemJavaCompiler();
        try (StandardJavaFileManager files = compiler.getStandardFileManager(null, null, null)) {
            JavacTask task = (JavacTask) compiler.getTask(null, files, null, List.of("-proc:none"), null,
                    files.getJavaFileObjects(new File("src/main/java/Twotalk.java")));
            List<CompilationUnitTree> units = new ArrayList<>();
            task.parse().forEach(units::add);
            task.analyze();
            LanguageTreeTest test = new LanguageTreeTest(Trees.instance(task));
            units.forEach(unit -> test.scan(unit, null));
            Due.is("[]", "what the rules do not allow", test.faults::toString);
            Due.is(true, "methods are found", () -> test.calls.size() > 200);
            test.depths();
            Due.end();
        }
    }

    /** "calls that are no recursion go at most eight deep": one of the library counts as one more. */
    private void depths() {
        Map<Element, Integer> depths = new HashMap<>();
        for (Element each : calls.keySet()) {
            int depth = depthOf(each, depths, new ArrayList<>());
            Due.is(true, each + " is " + depth + " calls deep", () -> depth <= DEEPEST);
        }
    }

    private int depthOf(Element from, Map<Element, Integer> depths, List<Element> open) {
        if (open.contains(from)) {
            Due.is("no recursion", from + " behind " + open, () -> "recursion");
            return 0;
        }
        if (!depths.containsKey(from)) {
            open.add(from);
            int deepest = 0;
            for (Element to : calls.getOrDefault(from, Set.of())) {
                deepest = Math.max(deepest, depthOf(to, depths, open));
            }
            open.remove(open.size() - 1);
            depths.put(from, deepest + 1);
        }
        return depths.get(from);
    }

    private void fault(String rule, Tree tree) {
        faults.add(rule + ": " + tree.toString().split("\n")[0]);
    }

    private String typeOf(Tree tree) {
        TypeMirror type = trees.getTypeMirror(new TreePath(getCurrentPath(), tree));
        return type == null ? "none" : type.toString();
    }

    @Override
    public Void scan(Tree tree, Void none) {
        if (tree != null && FORBIDDEN.contains(tree.getKind())) {
            fault("rules 2, 6, 7", tree);
        }
        return super.scan(tree, none);
    }

    @Override
    public Void visitClass(ClassTree tree, Void none) {
        Set<Modifier> modifiers = tree.getModifiers().getFlags();
        boolean isOuter = getCurrentPath().getParentPath().getLeaf() instanceof CompilationUnitTree;
        boolean isInside = getCurrentPath().getParentPath().getLeaf() instanceof ClassTree
                && modifiers.containsAll(Set.of(Modifier.PRIVATE, Modifier.STATIC, Modifier.FINAL));
        if (!isInside && !(isOuter && modifiers.equals(Set.of(Modifier.PUBLIC, Modifier.FINAL)))) {
            fault("rules 1, 2", tree);
        }
        for (Tree member : tree.getMembers()) {
            if (member instanceof BlockTree) {
                fault("rule 5", member);
            }
        }
        return super.visitClass(tree, none);
    }

    @Override
    public Void visitMethod(MethodTree tree, Void none) {
        method = trees.getElement(getCurrentPath());
        calls.put(method, new HashSet<>());
        loops = 0;
        super.visitMethod(tree, none);
        method = null;
        return null;
    }

    @Override
    public Void visitVariable(VariableTree tree, Void none) {
        Element element = trees.getElement(getCurrentPath());
        String type = element.asType().toString();
        String part = type.endsWith("[]") ? type.substring(0, type.length() - 2) : type;
        if (!PLAIN.contains(type) && !part.matches("Twotalk\\.\\w+")) {
            fault("rule 3", tree);
        }
        if (element.getKind() == ElementKind.FIELD && element.getModifiers().contains(Modifier.STATIC)) {
            boolean isWrittenOut = tree.getInitializer() instanceof NewArrayTree;
            if (!element.getModifiers().contains(Modifier.FINAL)
                    || !CONSTANTS.contains(type) && !(ARRAYS.contains(type) && isWrittenOut)) {
                fault("rule 5", tree);
            }
        }
        return super.visitVariable(tree, none);
    }

    @Override
    public Void visitMethodInvocation(MethodInvocationTree tree, Void none) {
        ExecutableElement called = (ExecutableElement) trees.getElement(getCurrentPath());
        String owner = called.getEnclosingElement().toString().replace("AbstractStringBuilder", "StringBuilder");
        boolean isSuper = tree.toString().equals("super()");
        if (!isSuper && !owner.startsWith("Twotalk") && !LIBRARY.contains(owner + "." + called)) {
            fault("rule 4", tree);
        }
        if (method == null) {
            fault("rule 5, a call outside of methods", tree);
        } else if (!isSuper) {
            calls.get(method).add(called);
        }
        return super.visitMethodInvocation(tree, none);
    }

    @Override
    public Void visitNewClass(NewClassTree tree, Void none) {
        Element made = trees.getElement(getCurrentPath());
        String name = tree.getIdentifier().toString();
        boolean isThrown = getCurrentPath().getParentPath().getLeaf() instanceof ThrowTree;
        if (tree.getClassBody() != null) {
            fault("rule 2", tree);
        }
        if (method != null && !isThrown) {
            calls.get(method).add(made);
            if (method.getKind() != ElementKind.CONSTRUCTOR) {
                fault("rule 12", tree);
            }
        }
        boolean isOwn = made.getEnclosingElement().toString().startsWith("Twotalk");
        if (!isThrown && !isOwn && !name.equals("StringBuilder")) {
            fault("rule 4", tree);
        }
        return super.visitNewClass(tree, none);
    }

    @Override
    public Void visitNewArray(NewArrayTree tree, Void none) {
        if (loops > 0) {
            fault("rule 12", tree);
        }
        if (tree.getDimensions().size() > 1) {
            fault("rule 3", tree);
        }
        return super.visitNewArray(tree, none);
    }

    @Override
    public Void visitThrow(ThrowTree tree, Void none) {
        boolean isPlain = false;
        if (tree.getExpression() instanceof NewClassTree) {
            NewClassTree made = (NewClassTree) tree.getExpression();
            isPlain = THROWN.contains(made.getIdentifier().toString()) && made.getArguments().size() <= 1
                    && made.getArguments().stream().allMatch(each -> each.getKind() == Tree.Kind.STRING_LITERAL);
        }
        if (!isPlain || method == null || method.getKind() == ElementKind.CONSTRUCTOR) {
            fault("rule 6", tree);
        }
        return super.visitThrow(tree, none);
    }

    @Override
    public Void visitBinary(BinaryTree tree, Void none) {
        boolean isText = typeOf(tree.getLeftOperand()).equals("java.lang.String")
                || typeOf(tree.getRightOperand()).equals("java.lang.String");
        boolean isDivided = tree.getKind() == Tree.Kind.DIVIDE || tree.getKind() == Tree.Kind.REMAINDER;
        if (isText) {
            fault("rules 6, 10", tree);
        }
        if (isDivided && !tree.getRightOperand().toString().matches("ACTS|STATES|SIDE|CHANNELS")) {
            fault("rule 7, a divisor that is no constant", tree);
        }
        return super.visitBinary(tree, none);
    }

    @Override
    public Void visitCompoundAssignment(CompoundAssignmentTree tree, Void none) {
        if (typeOf(tree.getVariable()).equals("java.lang.String")) {
            fault("rule 10", tree);
        }
        return super.visitCompoundAssignment(tree, none);
    }

    @Override
    public Void visitTypeCast(TypeCastTree tree, Void none) {
        if (!tree.getType().toString().matches("byte|char|int|long")) {
            fault("rules 6, 7", tree);
        }
        return super.visitTypeCast(tree, none);
    }

    /** "a counter against a bound": counted in the loop's head, and looked at there, or in what it goes on with. */
    @Override
    public Void visitForLoop(ForLoopTree tree, Void none) {
        boolean isCounted = tree.getInitializer().size() == 1 && tree.getUpdate().size() == 1
                && tree.getInitializer().get(0) instanceof VariableTree && tree.getCondition() != null;
        if (isCounted) {
            String counter = ((VariableTree) tree.getInitializer().get(0)).getName().toString();
            String update = tree.getUpdate().get(0).getExpression().toString();
            String condition = tree.getCondition().toString();
            boolean isOnward = update.equals(counter + "++") || update.equals(counter + " += 2");
            boolean isUp = isOnward && condition.matches("(?s).*\\b" + counter + " <=? .*");
            boolean isDown = update.equals(counter + "--") && condition.startsWith(counter + " >= 0");
            boolean isOther = update.matches("at = parent\\[at\\]") && condition.contains("length < path.length");
            isCounted = isUp || isDown || isOther;
        }
        if (!isCounted || tree.getCondition().toString().contains("||")) {
            fault("rule 9", tree);
        }
        loops++;
        super.visitForLoop(tree, none);
        loops--;
        return null;
    }

    /** The counter comes nearer to its bound by a line of its own at the end of each turn. */
    @Override
    public Void visitWhileLoop(WhileLoopTree tree, Void none) {
        String condition = tree.getCondition().toString();
        List<? extends StatementTree> lines = ((BlockTree) tree.getStatement()).getStatements();
        String last = lines.get(lines.size() - 1).toString();
        boolean isDown = last.matches("\\w+--;") && condition.matches("\\(" + last.replace("--;", "") + " > 0\\b.*");
        boolean isUp = last.matches("\\w+\\+\\+;") && condition.matches("\\(" + last.replace("++;", "") + " < .*");
        if (!isDown && !isUp || condition.contains("||")) {
            fault("rule 9", tree);
        }
        loops++;
        super.visitWhileLoop(tree, none);
        loops--;
        return null;
    }

    @Override
    public Void visitDoWhileLoop(DoWhileLoopTree tree, Void none) {
        fault("rule 9", tree);
        return super.visitDoWhileLoop(tree, none);
    }

    @Override
    public Void visitEnhancedForLoop(EnhancedForLoopTree tree, Void none) {
        fault("rule 9", tree);
        return super.visitEnhancedForLoop(tree, none);
    }
}
