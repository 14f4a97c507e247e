import com.sun.source.tree.AssertTree;
import com.sun.source.tree.BinaryTree;
import com.sun.source.tree.BlockTree;
import com.sun.source.tree.CatchTree;
import com.sun.source.tree.ClassTree;
import com.sun.source.tree.CompilationUnitTree;
import com.sun.source.tree.CompoundAssignmentTree;
import com.sun.source.tree.DoWhileLoopTree;
import com.sun.source.tree.ForLoopTree;
import com.sun.source.tree.ImportTree;
import com.sun.source.tree.LambdaExpressionTree;
import com.sun.source.tree.MemberReferenceTree;
import com.sun.source.tree.MethodInvocationTree;
import com.sun.source.tree.MethodTree;
import com.sun.source.tree.NewClassTree;
import com.sun.source.tree.SynchronizedTree;
import com.sun.source.tree.ThrowTree;
import com.sun.source.tree.Tree;
import com.sun.source.tree.TryTree;
import com.sun.source.tree.TypeParameterTree;
import com.sun.source.tree.VariableTree;
import com.sun.source.tree.WhileLoopTree;
import com.sun.source.util.TreePath;
import com.sun.source.util.TreePathScanner;
import com.sun.source.util.Trees;
import java.util.HashSet;
import java.util.Map;
import java.util.Set;
import java.util.TreeSet;
import javax.lang.model.element.Element;
import javax.lang.model.element.ElementKind;
import javax.lang.model.element.ExecutableElement;
import javax.lang.model.element.Modifier;
import javax.lang.model.type.TypeMirror;

/**
 * Goes through the program's tree by the rules of ../shared/LANGUAGE.md. It lets pass what the rules leave, and what it
 * cannot tell; where they say "some sixty" it takes a little more.
 */
final class Language extends TreePathScanner<Void, Void> {
    private static final Set<String> NUMBERS = Set.of("int", "long", "short", "byte", "char", "boolean", "double", "float");
    private static final Set<String> TYPES_OF_JAVA = Set.of("void", "String", "StringBuilder", "Integer", "ArrayList", "List",
            "Iterator", "Iterable", "Comparable", "extends", "super", "var", "");
    private static final Set<String> EXCEPTIONS = Set.of("IllegalStateException", "IllegalArgumentException",
            "IndexOutOfBoundsException", "ArithmeticException", "UnsupportedOperationException", "NoSuchElementException",
            "RuntimeException");
    private static final String OF_LISTS = " add get set remove size isEmpty clear of iterator ";
    private static final String OF_BUILDERS = " append charAt setCharAt setLength deleteCharAt reverse length toString ";
    private static final Map<String, String> CALLS_OF_JAVA = Map.ofEntries(
            Map.entry("String", " length charAt isEmpty equals indexOf substring toCharArray "),
            Map.entry("StringBuilder", OF_BUILDERS), Map.entry("AbstractStringBuilder", OF_BUILDERS),
            Map.entry("ArrayList", OF_LISTS), Map.entry("List", OF_LISTS), Map.entry("Collection", OF_LISTS),
            Map.entry("Iterator", " hasNext next "), Map.entry("Iterable", " iterator "), Map.entry("Comparable", " compareTo "),
            Map.entry("System", " arraycopy "), Map.entry("Arrays", " copyOf copyOfRange fill "),
            Map.entry("Enum", " ordinal compareTo <init> "), Map.entry("Object", " clone <init> "),
            Map.entry("Array", " clone "), Map.entry("Record", " <init> "));
    private static final Set<String> FUNCTIONS = Set.of("Integer", "Long", "Math");
    private static final Set<String> NOT_OF_YOUR_OWN = Set.of("equals", "hashCode", "toString", "finalize");

    private final Trees trees;
    private final CompilationUnitTree unit;
    private final Set<String> ownTypes = new HashSet<>();
    private final Set<String> shown = new TreeSet<>();
    private int classes;

    Language(Trees trees, CompilationUnitTree unit) {
        this.trees = trees;
        this.unit = unit;
        for (Tree tree : unit.getTypeDecls()) {
            noteNames((ClassTree) tree);
        }
        oneFile();
    }

    boolean hasClass(String name) {
        return ownTypes.contains(name);
    }

    private void noteNames(ClassTree outer) {
        new TreePathScanner<Void, Void>() {
            @Override
            public Void visitClass(ClassTree type, Void nothing) {
                ownTypes.add(type.getSimpleName().toString());
                classes++;
                return super.visitClass(type, nothing);
            }

            @Override
            public Void visitTypeParameter(TypeParameterTree parameter, Void nothing) {
                ownTypes.add(parameter.getName().toString());
                return super.visitTypeParameter(parameter, nothing);
            }
        }.scan(new TreePath(new TreePath(unit), outer), null);
        for (Tree member : outer.getMembers()) {
            if (member instanceof MethodTree method && has(method.getModifiers().getFlags(), Modifier.PUBLIC)) {
                shown.add(method.getName().toString());
            }
        }
        shown.remove("<init>");
    }

    static void holds(int rule, String what, boolean kept) {
        Check.part("rule " + rule);
        Check.same(what, kept ? "kept" : "broken", "kept");
    }

    private static boolean has(Set<Modifier> flags, Modifier flag) {
        return flags.contains(flag);
    }

    private void oneFile() {
        holds(1, "no package line", unit.getPackageName() == null);
        holds(1, "one class", unit.getTypeDecls().size() == 1);
        ClassTree outer = (ClassTree) unit.getTypeDecls().get(0);
        holds(1, "the class is StairKin", outer.getSimpleName().contentEquals("StairKin") && outer.getKind() == Tree.Kind.CLASS);
        holds(1, "it is public and final", outer.getModifiers().getFlags().equals(Set.of(Modifier.PUBLIC, Modifier.FINAL)));
        holds(11, "some twelve classes: " + classes, classes <= 14);
        for (ImportTree imported : unit.getImports()) {
            holds(4, "import " + imported.getQualifiedIdentifier(),
                    imported.getQualifiedIdentifier().toString().matches("java\\.util\\.\\w+|java\\.util\\.\\*"));
        }
        for (Tree member : outer.getMembers()) {
            if (!(member instanceof ClassTree)) {
                holds(1, "a member is the face's or private: " + firstLine(member), isShownOrPrivate(member));
            }
        }
    }

    private static boolean isShownOrPrivate(Tree member) {
        Set<Modifier> flags = member instanceof MethodTree method ? method.getModifiers().getFlags()
                : member instanceof VariableTree field ? field.getModifiers().getFlags() : Set.of(Modifier.PRIVATE);
        return has(flags, Modifier.PUBLIC) || has(flags, Modifier.PRIVATE);
    }

    private static String firstLine(Tree tree) {
        return tree.toString().strip().lines().findFirst().orElse("");
    }

    @Override
    public Void visitClass(ClassTree type, Void nothing) {
        String name = type.getSimpleName().toString();
        boolean outer = type == unit.getTypeDecls().get(0);
        Set<Modifier> flags = type.getModifiers().getFlags();
        holds(1, name + " is not shown", outer || !has(flags, Modifier.PUBLIC) && !has(flags, Modifier.PROTECTED));
        String above = String.valueOf(type.getExtendsClause());
        holds(6, name + " is no exception", !EXCEPTIONS.contains(above));
        int fields = 0;
        for (Tree member : type.getMembers()) {
            holds(5, name + " has no static block", !(member instanceof BlockTree block && block.isStatic()));
            if (member instanceof VariableTree field && !has(field.getModifiers().getFlags(), Modifier.STATIC)) {
                fields++;
            }
        }
        holds(11, name + " has some twenty fields: " + fields, fields <= 24);
        return super.visitClass(type, nothing);
    }

    @Override
    public Void visitVariable(VariableTree variable, Void nothing) {
        boolean caught = getCurrentPath().getParentPath().getLeaf() instanceof CatchTree;
        if (variable.getType() != null && !caught) {
            type(variable.getType().toString(), "the type of " + variable.getName());
        }
        Element element = trees.getElement(getCurrentPath());
        if (element != null && element.getKind() == ElementKind.FIELD && element.getModifiers().contains(Modifier.STATIC)) {
            holds(5, variable.getName() + " is final", element.getModifiers().contains(Modifier.FINAL));
        }
        return super.visitVariable(variable, nothing);
    }

    private void type(String type, String what) {
        for (String part : type.split("[<>,?&\\s\\[\\]]+")) {
            String name = part.substring(part.lastIndexOf('.') + 1);
            holds(3, what + ": " + type, NUMBERS.contains(name) || TYPES_OF_JAVA.contains(name) || ownTypes.contains(name));
        }
        boolean table = type.endsWith("[][]");
        holds(3, what + " has at most two dimensions: " + type, !type.endsWith("[][][]")
                && (!table || NUMBERS.contains(type.replace("[]", ""))));
    }

    @Override
    public Void visitMethod(MethodTree method, Void nothing) {
        String name = method.getName().toString();
        Set<Modifier> flags = method.getModifiers().getFlags();
        holds(11, name + " takes at most seven parameters", method.getParameters().size() <= 7);
        long lines = lineOf(trees.getSourcePositions().getEndPosition(unit, method))
                - lineOf(trees.getSourcePositions().getStartPosition(unit, method)) + 1;
        holds(11, name + " has some sixty lines: " + lines, lines <= 70);
        holds(1, "private " + name + " bears no name of the face", !has(flags, Modifier.PRIVATE) || !shown.contains(name));
        holds(6, "no " + name + " of your own", !NOT_OF_YOUR_OWN.contains(name));
        if (method.getReturnType() != null) {
            type(method.getReturnType().toString(), "what " + name + " answers");
        }
        return super.visitMethod(method, nothing);
    }

    @Override
    public Void visitMethodInvocation(MethodInvocationTree call, Void nothing) {
        if (trees.getElement(getCurrentPath()) instanceof ExecutableElement called) {
            String owner = called.getEnclosingElement().getSimpleName().toString();
            String name = called.getSimpleName().toString();
            boolean function = FUNCTIONS.contains(owner) && !name.endsWith("Exact") && isWhole(called.getReturnType());
            holds(4, "the call of " + owner + "." + name, function || ownTypes.contains(owner)
                    || CALLS_OF_JAVA.getOrDefault(owner, "").contains(" " + name + " "));
        }
        return super.visitMethodInvocation(call, nothing);
    }

    private static boolean isWhole(TypeMirror type) {
        return !type.toString().equals("double") && !type.toString().equals("float");
    }

    @Override
    public Void visitNewClass(NewClassTree made, Void nothing) {
        boolean thrown = getCurrentPath().getParentPath().getLeaf() instanceof ThrowTree;
        if (!thrown) {
            type(made.getIdentifier().toString(), "new");
        }
        return super.visitNewClass(made, nothing);
    }

    @Override
    public Void visitThrow(ThrowTree thrown, Void nothing) {
        boolean made = thrown.getExpression() instanceof NewClassTree exception
                && EXCEPTIONS.contains(exception.getIdentifier().toString()) && exception.getArguments().size() <= 1;
        holds(6, firstLine(thrown), made);
        TreePath path = getCurrentPath();
        while (path != null && !(path.getLeaf() instanceof MethodTree)) {
            path = path.getParentPath();
        }
        holds(6, "it is in no constructor", path == null || ((MethodTree) path.getLeaf()).getReturnType() != null);
        return super.visitThrow(thrown, nothing);
    }

    @Override
    public Void visitTry(TryTree tried, Void nothing) {
        holds(6, "try without finally and resources", tried.getFinallyBlock() == null && tried.getResources().isEmpty());
        for (CatchTree caught : tried.getCatches()) {
            for (String type : caught.getParameter().getType().toString().split("[|\\s]+")) {
                holds(6, "catch of " + type, EXCEPTIONS.contains(type));
            }
        }
        return super.visitTry(tried, nothing);
    }

    @Override
    public Void visitLambdaExpression(LambdaExpressionTree lambda, Void nothing) {
        holds(2, "no lambda: " + lambda, false);
        return super.visitLambdaExpression(lambda, nothing);
    }

    @Override
    public Void visitMemberReference(MemberReferenceTree reference, Void nothing) {
        holds(2, "no method reference: " + reference, false);
        return super.visitMemberReference(reference, nothing);
    }

    @Override
    public Void visitSynchronized(SynchronizedTree block, Void nothing) {
        holds(6, "no synchronized", false);
        return super.visitSynchronized(block, nothing);
    }

    @Override
    public Void visitAssert(AssertTree statement, Void nothing) {
        holds(6, "no assert", false);
        return super.visitAssert(statement, nothing);
    }

    @Override
    public Void visitBinary(BinaryTree binary, Void nothing) {
        holds(10, "no text joined by +: " + binary, binary.getKind() != Tree.Kind.PLUS || !isText(getCurrentPath()));
        return super.visitBinary(binary, nothing);
    }

    @Override
    public Void visitCompoundAssignment(CompoundAssignmentTree assignment, Void nothing) {
        holds(10, "no text joined by +=: " + assignment, !isText(getCurrentPath()));
        return super.visitCompoundAssignment(assignment, nothing);
    }

    private boolean isText(TreePath path) {
        return String.valueOf(trees.getTypeMirror(path)).equals("java.lang.String");
    }

    @Override
    public Void visitWhileLoop(WhileLoopTree loop, Void nothing) {
        ends(loop.getCondition());
        return super.visitWhileLoop(loop, nothing);
    }

    @Override
    public Void visitDoWhileLoop(DoWhileLoopTree loop, Void nothing) {
        ends(loop.getCondition());
        return super.visitDoWhileLoop(loop, nothing);
    }

    @Override
    public Void visitForLoop(ForLoopTree loop, Void nothing) {
        ends(loop.getCondition());
        return super.visitForLoop(loop, nothing);
    }

    private static void ends(Tree condition) {
        String text = String.valueOf(condition);
        holds(9, "a loop has an end: " + text, condition != null && !text.matches("\\(*true\\)*"));
    }

    private long lineOf(long position) {
        return position < 0 ? 0 : unit.getLineMap().getLineNumber(position);
    }
}
