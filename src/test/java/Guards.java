import com.sun.source.tree.ArrayAccessTree;
import com.sun.source.tree.BinaryTree;
import com.sun.source.tree.CompilationUnitTree;
import com.sun.source.tree.ConditionalExpressionTree;
import com.sun.source.tree.ExpressionTree;
import com.sun.source.tree.ForLoopTree;
import com.sun.source.tree.IdentifierTree;
import com.sun.source.tree.IfTree;
import com.sun.source.tree.LiteralTree;
import com.sun.source.tree.MemberSelectTree;
import com.sun.source.tree.MethodInvocationTree;
import com.sun.source.tree.MethodTree;
import com.sun.source.tree.NewArrayTree;
import com.sun.source.tree.NewClassTree;
import com.sun.source.tree.ParenthesizedTree;
import com.sun.source.tree.Tree;
import com.sun.source.tree.TypeCastTree;
import com.sun.source.tree.VariableTree;
import com.sun.source.util.TreePath;
import com.sun.source.util.TreePathScanner;
import com.sun.source.util.Trees;
import java.util.ArrayList;
import java.util.EnumSet;
import java.util.List;
import java.util.Map;
import java.util.Set;
import java.util.TreeMap;
import java.util.TreeSet;
import javax.lang.model.element.Element;
import javax.lang.model.element.ExecutableElement;
import javax.lang.model.element.Modifier;
import javax.lang.model.element.VariableElement;
import javax.lang.model.type.TypeKind;

/**
 * What the program does beyond the rules of ../shared/LANGUAGE.md, so that they can be seen to hold: each index and divisor
 * is looked at right where it is used, each loop counts, nothing is made but in constructors.
 */
final class Guards extends TreePathScanner<Void, Void> {
    /** The rules leave some of these; the program does without them all, so that nothing has to be looked at in them. */
    private static final Set<Tree.Kind> DONE_WITHOUT = EnumSet.of(
            Tree.Kind.THROW, Tree.Kind.TRY, Tree.Kind.INSTANCE_OF, Tree.Kind.SWITCH_EXPRESSION, Tree.Kind.WHILE_LOOP,
            Tree.Kind.DO_WHILE_LOOP, Tree.Kind.ENHANCED_FOR_LOOP, Tree.Kind.STRING_LITERAL, Tree.Kind.RECORD, Tree.Kind.ENUM,
            Tree.Kind.INTERFACE, Tree.Kind.DIVIDE_ASSIGNMENT, Tree.Kind.REMAINDER_ASSIGNMENT);
    /** The rows that may be made by a call, and not in a constructor. */
    private static final String MAKES_ROWS = "Rows.longer";
    /** It carries its depth as an argument. */
    private static final String CALLS_ITSELF = "Climbs.goEach";
    private static final int MOST_DEPTH = 8;

    private final Trees trees;
    private final CompilationUnitTree unit;
    private final Map<String, Set<String>> calls = new TreeMap<>();
    private final Set<String> shown = new TreeSet<>();

    Guards(Trees trees, CompilationUnitTree unit) {
        this.trees = trees;
        this.unit = unit;
    }

    private static void holds(int rule, String what, boolean kept) {
        Language.holds(rule, what, kept);
    }

    @Override
    public Void scan(Tree tree, Void nothing) {
        if (tree != null) {
            Check.part("rules 3, 6, 7, 9");
            Check.same(tree.getKind() + " in line " + lineOf(tree), DONE_WITHOUT.contains(tree.getKind()) ? 1 : 0, 0);
        }
        return super.scan(tree, nothing);
    }

    @Override
    public Void visitVariable(VariableTree variable, Void nothing) {
        VariableElement element = (VariableElement) trees.getElement(getCurrentPath());
        if (element.getModifiers().contains(Modifier.STATIC)) {
            holds(5, variable.getName() + " is a constant", element.getConstantValue() != null);
        }
        return super.visitVariable(variable, nothing);
    }

    @Override
    public Void visitMethod(MethodTree method, Void nothing) {
        String name = nameOf((ExecutableElement) trees.getElement(getCurrentPath()));
        calls.computeIfAbsent(name, key -> new TreeSet<>());
        if (method.getModifiers().getFlags().contains(Modifier.PUBLIC)) {
            shown.add(name);
        }
        return super.visitMethod(method, nothing);
    }

    @Override
    public Void visitMethodInvocation(MethodInvocationTree call, Void nothing) {
        String called = nameOf((ExecutableElement) trees.getElement(getCurrentPath()));
        calls.computeIfAbsent(methodAround(), key -> new TreeSet<>()).add(called);
        return super.visitMethodInvocation(call, nothing);
    }

    @Override
    public Void visitNewClass(NewClassTree made, Void nothing) {
        holds(12, "new " + made.getIdentifier() + " in " + methodAround(), methodAround().endsWith(".<init>"));
        calls.computeIfAbsent(methodAround(), key -> new TreeSet<>()).add(made.getIdentifier() + ".<init>");
        return super.visitNewClass(made, nothing);
    }

    @Override
    public Void visitNewArray(NewArrayTree made, Void nothing) {
        String around = methodAround();
        holds(12, "a row made in " + around, around.endsWith(".<init>") || around.equals(MAKES_ROWS));
        for (ExpressionTree length : made.getDimensions()) {
            boolean atLeast = length instanceof ConditionalExpressionTree && length.toString().endsWith(": had");
            holds(7, "the length " + length + " in " + around, isPositiveConstant(length) || atLeast);
        }
        return super.visitNewArray(made, nothing);
    }

    @Override
    public Void visitTypeCast(TypeCastTree cast, Void nothing) {
        holds(7, "the cast to " + cast.getType(), cast.getType().toString().equals("double"));
        return super.visitTypeCast(cast, nothing);
    }

    @Override
    public Void visitArrayAccess(ArrayAccessTree access, Void nothing) {
        String row = access.getExpression().toString();
        String index = access.getIndex().toString();
        String looks = looksAhead();
        boolean notBelow = looks.contains(index + " >= 0") || looks.contains("int " + index + " = 0");
        holds(7, access + " in " + methodAround() + " behind a look at its place",
                notBelow && looks.contains(index + " < " + row + ".length"));
        return super.visitArrayAccess(access, nothing);
    }

    @Override
    public Void visitBinary(BinaryTree binary, Void nothing) {
        if (binary.getKind() == Tree.Kind.DIVIDE || binary.getKind() == Tree.Kind.REMAINDER) {
            ExpressionTree divisor = binary.getRightOperand();
            boolean whole = trees.getTypeMirror(getCurrentPath()).getKind() == TypeKind.INT;
            String looks = looksAhead();
            boolean looked = looks.contains(divisor + " > 0") || looks.contains(divisor + " != 0");
            holds(7, binary + " in " + methodAround() + " behind a look at its divisor",
                    !whole || looked || isPositiveConstant(divisor));
        }
        return super.visitBinary(binary, nothing);
    }

    @Override
    public Void visitForLoop(ForLoopTree loop, Void nothing) {
        boolean counts = !loop.getInitializer().isEmpty() && loop.getInitializer().get(0) instanceof VariableTree;
        String counter = counts ? ((VariableTree) loop.getInitializer().get(0)).getName().toString() : "";
        String step = loop.getUpdate().isEmpty() ? "" : loop.getUpdate().get(0).getExpression().toString();
        String bound = String.valueOf(loop.getCondition());
        boolean up = step.equals(counter + "++") && bound.matches(".*\\b" + counter + " (<|<=) .*");
        boolean down = step.equals(counter + "--") && bound.matches(".*\\b" + counter + " (>|>=) .*");
        holds(9, "for (.. " + bound + " ..) in " + methodAround() + " counts to a bound", counts && (up || down));
        holds(9, bound + " in " + methodAround() + " holds only if all of it holds", !bound.contains("||"));
        holds(9, counter + " in " + methodAround() + " is counted by its loop alone",
                !loop.getStatement().toString().matches("(?s).*(\\b" + counter + " (=|\\+=|-=|\\*=) .*|\\b" + counter
                        + "(\\+\\+|--).*|(\\+\\+|--)" + counter + "\\b.*)"));
        return super.visitForLoop(loop, nothing);
    }

    /** Rules 8 and 11: how deep calls go, and which come back to where they were. */
    void compareCalls() {
        for (String method : calls.keySet()) {
            List<String> round = new ArrayList<>();
            boolean comesBack = reaches(method, method, round);
            holds(8, method + " comes back to itself by " + round, !comesBack || method.equals(CALLS_ITSELF));
        }
        for (String method : shown) {
            int depth = depth(method, 1);
            holds(11, method + " goes " + depth + " deep", depth <= MOST_DEPTH);
        }
    }

    private boolean reaches(String from, String to, List<String> met) {
        for (String called : calls.getOrDefault(from, Set.of())) {
            if (called.equals(to)) {
                return true;
            }
            if (!met.contains(called)) {
                met.add(called);
                if (reaches(called, to, met)) {
                    return true;
                }
            }
        }
        return false;
    }

    private int depth(String method, int level) {
        int deepest = level;
        for (String called : calls.getOrDefault(method, Set.of())) {
            if (calls.containsKey(called) && !called.equals(method) && level <= MOST_DEPTH) {
                deepest = Math.max(deepest, depth(called, level + 1));
            }
        }
        return deepest;
    }

    /** The conditions that hold where the path is: of an if, a loop or a "?" round it, or ahead of its "&&". */
    private String looksAhead() {
        StringBuilder looks = new StringBuilder();
        TreePath path = getCurrentPath();
        while (path.getParentPath() != null) {
            Tree inside = path.getLeaf();
            path = path.getParentPath();
            Tree around = path.getLeaf();
            if (around instanceof MethodTree) {
                break;
            }
            looks.append(looksAt(around, inside)).append('\n');
        }
        return looks.toString();
    }

    private static String looksAt(Tree around, Tree inside) {
        if (around instanceof IfTree branch && inside == branch.getThenStatement()) {
            return every(branch.getCondition().toString());
        }
        if (around instanceof ConditionalExpressionTree choice && inside == choice.getTrueExpression()) {
            return every(choice.getCondition().toString());
        }
        if (around instanceof ForLoopTree loop && inside == loop.getStatement()) {
            return every(loop.getCondition().toString()) + " " + loop.getInitializer();
        }
        if (around instanceof BinaryTree both && both.getKind() == Tree.Kind.CONDITIONAL_AND
                && inside == both.getRightOperand()) {
            return every(both.getLeftOperand().toString());
        }
        return "";
    }

    /** Nothing is known of the parts of a condition that has an "or". */
    private static String every(String condition) {
        return condition.contains("||") ? "" : condition;
    }

    private boolean isPositiveConstant(ExpressionTree expression) {
        if (expression instanceof LiteralTree literal) {
            return literal.getValue() instanceof Integer value && value > 0;
        }
        if (expression instanceof IdentifierTree || expression instanceof MemberSelectTree) {
            Element element = trees.getElement(new TreePath(getCurrentPath(), expression));
            return element instanceof VariableElement constant
                    && constant.getConstantValue() instanceof Integer value && value > 0;
        }
        if (expression instanceof BinaryTree sum && sum.getKind() == Tree.Kind.PLUS) {
            return isPositiveConstant(sum.getLeftOperand()) && isPositiveConstant(sum.getRightOperand());
        }
        return expression instanceof ParenthesizedTree inside && isPositiveConstant(inside.getExpression());
    }

    private String methodAround() {
        TreePath path = getCurrentPath();
        while (path != null && !(path.getLeaf() instanceof MethodTree)) {
            path = path.getParentPath();
        }
        return path == null ? "no method" : nameOf((ExecutableElement) trees.getElement(path));
    }

    private static String nameOf(ExecutableElement method) {
        return method.getEnclosingElement().getSimpleName() + "." + method.getSimpleName();
    }

    private long lineOf(Tree tree) {
        long position = trees.getSourcePositions().getStartPosition(unit, tree);
        return position < 0 ? 0 : unit.getLineMap().getLineNumber(position);
    }
}
