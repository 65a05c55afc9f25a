import com.sun.source.tree.ArrayAccessTree;
import com.sun.source.tree.AssignmentTree;
import com.sun.source.tree.BinaryTree;
import com.sun.source.tree.ClassTree;
import com.sun.source.tree.CompilationUnitTree;
import com.sun.source.tree.CompoundAssignmentTree;
import com.sun.source.tree.DoWhileLoopTree;
import com.sun.source.tree.ExpressionTree;
import com.sun.source.tree.ForLoopTree;
import com.sun.source.tree.IdentifierTree;
import com.sun.source.tree.LineMap;
import com.sun.source.tree.LiteralTree;
import com.sun.source.tree.MemberSelectTree;
import com.sun.source.tree.MethodInvocationTree;
import com.sun.source.tree.MethodTree;
import com.sun.source.tree.NewArrayTree;
import com.sun.source.tree.NewClassTree;
import com.sun.source.tree.Tree;
import com.sun.source.tree.UnaryTree;
import com.sun.source.tree.VariableTree;
import com.sun.source.tree.WhileLoopTree;
import com.sun.source.util.JavacTask;
import com.sun.source.util.TreePath;
import com.sun.source.util.TreePathScanner;
import com.sun.source.util.Trees;
import java.io.IOException;
import java.nio.file.Path;
import java.util.ArrayList;
import java.util.EnumSet;
import java.util.HashMap;
import java.util.List;
import java.util.Map;
import java.util.Set;
import java.util.TreeSet;
import java.util.regex.Matcher;
import java.util.regex.Pattern;
import javax.lang.model.element.Element;
import javax.lang.model.element.ElementKind;
import javax.lang.model.element.ExecutableElement;
import javax.lang.model.element.Modifier;
import javax.lang.model.element.VariableElement;
import javax.lang.model.type.TypeMirror;
import javax.tools.JavaCompiler;
import javax.tools.StandardJavaFileManager;
import javax.tools.ToolProvider;

/** Rules of LANGUAGE.md that the compiler's tree of the class tells, with names and types resolved. */
public final class RulesTest extends TreePathScanner<Void, Void> {
    private static final Checks C = new Checks();
    private static final Path CLASS = Path.of("src/main/java/KnockFinder.java");
    private static final int DEEPEST = 8;
    private static final int LONGEST = 60;

    private static final Set<Tree.Kind> RULED_OUT = EnumSet.of(Tree.Kind.LAMBDA_EXPRESSION,
        Tree.Kind.MEMBER_REFERENCE, Tree.Kind.THROW, Tree.Kind.TRY, Tree.Kind.CATCH, Tree.Kind.ASSERT,
        Tree.Kind.SYNCHRONIZED, Tree.Kind.BINDING_PATTERN, Tree.Kind.ANNOTATION, Tree.Kind.FLOAT_LITERAL,
        Tree.Kind.DOUBLE_LITERAL, Tree.Kind.UNION_TYPE, Tree.Kind.INTERSECTION_TYPE,
        Tree.Kind.SWITCH_EXPRESSION, Tree.Kind.YIELD, Tree.Kind.PACKAGE);
    private static final Set<String> LIBRARY = Set.of("Math.min", "Math.max", "Math.abs", "Math.floorDiv",
        "Math.floorMod", "Long.bitCount", "String.length", "String.charAt", "String.isEmpty", "String.equals",
        "String.indexOf", "String.substring", "String.toCharArray", "StringBuilder.append", "StringBuilder.charAt",
        "StringBuilder.setCharAt", "StringBuilder.setLength", "StringBuilder.deleteCharAt", "StringBuilder.reverse",
        "StringBuilder.length", "StringBuilder.toString", "System.arraycopy", "Arrays.copyOf", "Arrays.copyOfRange",
        "Arrays.fill");
    private static final Set<String> APPENDED = Set.of("char", "java.lang.String", "int");
    private static final Set<String> PLAIN = Set.of("void", "int", "long", "boolean", "char", "short", "byte",
        "java.lang.String", "java.lang.StringBuilder");

    private static final Pattern COUNTED = Pattern.compile("(\\w+)(\\+\\+|--| [+-]= \\d+)");

    private final Trees trees;
    private final LineMap lines;
    private final CompilationUnitTree unit;
    /** Of each method those that it calls, of the class and of the library. */
    private final Map<String, Set<String>> calls = new HashMap<>();
    /** Of each variable what it is set to. */
    private final Map<Element, List<ExpressionTree>> values = new HashMap<>();
    private final List<TreePath> divisors = new ArrayList<>();

    private RulesTest(Trees trees, CompilationUnitTree unit) {
        this.trees = trees;
        this.unit = unit;
        lines = unit.getLineMap();
    }

    public static void main(String[] args) throws IOException {
        JavaCompiler compiler = ToolProvider.getSystemJavaCompiler();
        try (StandardJavaFileManager files = compiler.getStandardFileManager(null, null, null)) {
            List<String> options = List.of("-proc:none", "-encoding", "UTF-8");
            JavacTask task = (JavacTask) compiler.getTask(null, files, null, options, null,
                files.getJavaFileObjects(CLASS));
            CompilationUnitTree unit = task.parse().iterator().next();
            task.analyze();
            RulesTest test = new RulesTest(Trees.instance(task), unit);
            test.scan(unit, null);
            test.divisorsAreTested();
            test.callsEnd();
        }
        C.end();
    }

    private void rule(int number, Tree tree, String what, boolean holds) {
        long start = trees.getSourcePositions().getStartPosition(unit, tree);
        C.isTrue("rule " + number + ", line " + lines.getLineNumber(start) + ": " + what, holds);
    }

    private Element elementOf(Tree tree) {
        return trees.getElement(TreePath.getPath(unit, tree));
    }

    private TypeMirror typeOf(Tree tree) {
        return trees.getTypeMirror(TreePath.getPath(unit, tree));
    }

    private static boolean isOwn(String type) {
        return type.equals("KnockFinder") || type.startsWith("KnockFinder.");
    }

    private static boolean mayStand(String type) {
        if (type.endsWith("[][]")) {
            return Set.of("int", "long", "char", "byte", "short").contains(type.substring(0, type.length() - 4));
        }
        String one = type.endsWith("[]") ? type.substring(0, type.length() - 2) : type;
        return PLAIN.contains(one) && !(one.startsWith("java.") && type.endsWith("[]")) || isOwn(one);
    }

    @Override
    public Void scan(Tree tree, Void none) {
        if (tree != null) {
            rule(6, tree, "no " + tree.getKind(), !RULED_OUT.contains(tree.getKind()));
        }
        return super.scan(tree, none);
    }

    @Override
    public Void visitClass(ClassTree tree, Void none) {
        Element element = elementOf(tree);
        boolean outer = element.getSimpleName().contentEquals("KnockFinder");
        rule(2, tree, "a class of the face or one inside it",
            outer || element.getEnclosingElement().getSimpleName().contentEquals("KnockFinder"));
        rule(2, tree, "static", outer || element.getModifiers().contains(Modifier.STATIC));
        rule(2, tree, "in no method", getCurrentPath().getParentPath().getLeaf().getKind() != Tree.Kind.BLOCK);
        for (Tree member : tree.getMembers()) {
            rule(5, member, "no block", member.getKind() != Tree.Kind.BLOCK);
        }
        return super.visitClass(tree, none);
    }

    @Override
    public Void visitMethod(MethodTree tree, Void none) {
        long begin = lines.getLineNumber(trees.getSourcePositions().getStartPosition(unit, tree));
        long end = lines.getLineNumber(trees.getSourcePositions().getEndPosition(unit, tree));
        rule(11, tree, "seven parameters at most", tree.getParameters().size() <= 7);
        rule(11, tree, "a short method", end - begin < LONGEST);
        rule(6, tree, "nothing thrown", tree.getThrows().isEmpty());
        calls.putIfAbsent(nameOf(elementOf(tree)), new TreeSet<>());
        return super.visitMethod(tree, none);
    }

    private static String nameOf(Element method) {
        return method.getEnclosingElement() + "." + method;
    }

    @Override
    public Void visitVariable(VariableTree tree, Void none) {
        VariableElement element = (VariableElement) elementOf(tree);
        String type = element.asType().toString();
        rule(3, tree, "type " + type, mayStand(type));
        if (element.getModifiers().contains(Modifier.STATIC)) {
            rule(5, tree, "final", element.getModifiers().contains(Modifier.FINAL));
            boolean row = Set.of("int[]", "long[]", "char[]", "byte[]").contains(type);
            boolean written = tree.getInitializer() instanceof NewArrayTree
                && ((NewArrayTree) tree.getInitializer()).getInitializers() != null;
            rule(5, tree, "a constant, or a row written out", row ? written : element.getConstantValue() != null);
        }
        if (tree.getInitializer() != null) {
            values.computeIfAbsent(element, e -> new ArrayList<>()).add(tree.getInitializer());
        } else if (element.getKind() != ElementKind.FIELD) {
            values.computeIfAbsent(element, e -> new ArrayList<>()).add(null);
        }
        return super.visitVariable(tree, none);
    }

    @Override
    public Void visitAssignment(AssignmentTree tree, Void none) {
        noStaticRow(tree.getVariable());
        if (!(tree.getVariable() instanceof ArrayAccessTree)) {
            values.computeIfAbsent(elementOf(tree.getVariable()), e -> new ArrayList<>()).add(tree.getExpression());
        }
        return super.visitAssignment(tree, none);
    }

    @Override
    public Void visitCompoundAssignment(CompoundAssignmentTree tree, Void none) {
        changed(tree.getVariable());
        rule(10, tree, "texts are joined by StringBuilder", !typeOf(tree).toString().equals("java.lang.String"));
        rule(7, tree, "a divisor to look at", !Set.of(Tree.Kind.DIVIDE_ASSIGNMENT, Tree.Kind.REMAINDER_ASSIGNMENT)
            .contains(tree.getKind()));
        return super.visitCompoundAssignment(tree, none);
    }

    @Override
    public Void visitUnary(UnaryTree tree, Void none) {
        if (!Set.of(Tree.Kind.UNARY_MINUS, Tree.Kind.UNARY_PLUS, Tree.Kind.LOGICAL_COMPLEMENT,
            Tree.Kind.BITWISE_COMPLEMENT).contains(tree.getKind())) {
            changed(tree.getExpression());
        }
        return super.visitUnary(tree, none);
    }

    private void changed(ExpressionTree variable) {
        noStaticRow(variable);
        if (!(variable instanceof ArrayAccessTree)) {
            values.computeIfAbsent(elementOf(variable), e -> new ArrayList<>()).add(null);
        }
    }

    private void noStaticRow(ExpressionTree variable) {
        if (variable instanceof ArrayAccessTree) {
            Element row = elementOf(((ArrayAccessTree) variable).getExpression());
            rule(5, variable, "a static row stays", row == null || !row.getModifiers().contains(Modifier.STATIC));
        }
    }

    /** A static row is only read or asked for its length, so that no other name can change it. */
    @Override
    public Void visitIdentifier(IdentifierTree tree, Void none) {
        Element element = elementOf(tree);
        if (element instanceof VariableElement && element.getModifiers().contains(Modifier.STATIC)
            && element.asType().toString().endsWith("[]")) {
            Tree.Kind around = getCurrentPath().getParentPath().getLeaf().getKind();
            rule(5, tree, "a static row is read alone",
                around == Tree.Kind.ARRAY_ACCESS || around == Tree.Kind.MEMBER_SELECT);
        }
        return super.visitIdentifier(tree, none);
    }

    @Override
    public Void visitBinary(BinaryTree tree, Void none) {
        if (tree.getKind() == Tree.Kind.DIVIDE || tree.getKind() == Tree.Kind.REMAINDER) {
            divisors.add(new TreePath(getCurrentPath(), tree.getRightOperand()));
        }
        String left = typeOf(tree.getLeftOperand()).toString();
        String right = typeOf(tree.getRightOperand()).toString();
        if (tree.getKind() == Tree.Kind.PLUS) {
            rule(10, tree, "texts are joined by StringBuilder", !typeOf(tree).toString().equals("java.lang.String"));
        } else if (tree.getKind() == Tree.Kind.EQUAL_TO || tree.getKind() == Tree.Kind.NOT_EQUAL_TO) {
            boolean texts = left.equals("java.lang.String") && right.equals("java.lang.String");
            rule(6, tree, "no == between texts", !texts && !left.equals("java.lang.Integer"));
        }
        return super.visitBinary(tree, none);
    }

    @Override
    public Void visitLiteral(LiteralTree tree, Void none) {
        if (tree.getValue() instanceof String) {
            for (char sign : ((String) tree.getValue()).toCharArray()) {
                rule(4, tree, "signs are 1 to 127", sign >= 1 && sign <= 127);
            }
        }
        return super.visitLiteral(tree, none);
    }

    @Override
    public Void visitMethodInvocation(MethodInvocationTree tree, Void none) {
        ExecutableElement called = (ExecutableElement) elementOf(tree.getMethodSelect());
        String owner = called.getEnclosingElement().toString();
        if (called.getKind() == ElementKind.METHOD) {
            if (!isOwn(owner)) {
                String name = receiverOf(tree, called) + "." + called.getSimpleName();
                rule(4, tree, name, LIBRARY.contains(name));
                rule(4, tree, "append of these alone", !called.getSimpleName().contentEquals("append")
                    || APPENDED.contains(called.getParameters().get(0).asType().toString()));
            }
            note(called);
        }
        return super.visitMethodInvocation(tree, none);
    }

    /** By the type at hand: StringBuilder has some of its methods from a class above it. */
    private String receiverOf(MethodInvocationTree tree, ExecutableElement called) {
        String type = called.getEnclosingElement().toString();
        if (!called.getModifiers().contains(Modifier.STATIC) && tree.getMethodSelect() instanceof MemberSelectTree) {
            type = typeOf(((MemberSelectTree) tree.getMethodSelect()).getExpression()).toString();
        }
        return type.substring(type.lastIndexOf('.') + 1);
    }

    @Override
    public Void visitNewClass(NewClassTree tree, Void none) {
        String type = typeOf(tree).toString();
        rule(4, tree, "new " + type, isOwn(type) || type.equals("java.lang.StringBuilder"));
        rule(2, tree, "no class without a name", tree.getClassBody() == null);
        inNoOpenLoop(tree);
        note((ExecutableElement) elementOf(tree));
        return super.visitNewClass(tree, none);
    }

    @Override
    public Void visitNewArray(NewArrayTree tree, Void none) {
        rule(3, tree, "type " + typeOf(tree), mayStand(typeOf(tree).toString()));
        inNoOpenLoop(tree);
        return super.visitNewArray(tree, none);
    }

    @Override
    public Void visitForLoop(ForLoopTree tree, Void none) {
        boolean counts = tree.getUpdate().size() == 1 && tree.getCondition() != null;
        String update = counts ? tree.getUpdate().get(0).getExpression().toString() : "";
        Matcher counter = COUNTED.matcher(update);
        counts = counter.matches();
        rule(9, tree, "a counter against a bound", counts
            && isHeldAgainst(counter.group(1), tree.getCondition().toString(), counter.group(2).contains("-")));
        return super.visitForLoop(tree, none);
    }

    @Override
    public Void visitWhileLoop(WhileLoopTree tree, Void none) {
        Matcher counter = Pattern.compile("(\\w+)\\+\\+;").matcher(tree.getStatement().toString());
        rule(9, tree, "a counter against a bound", counter.find()
            && isHeldAgainst(counter.group(1), tree.getCondition().toString(), false));
        return super.visitWhileLoop(tree, none);
    }

    @Override
    public Void visitDoWhileLoop(DoWhileLoopTree tree, Void none) {
        rule(9, tree, "a loop whose end is to be looked at", false);
        return super.visitDoWhileLoop(tree, none);
    }

    private static boolean isHeldAgainst(String counter, String condition, boolean down) {
        return Pattern.compile("\\b" + counter + (down ? " >=? 0" : " <=? [\\w.]+")).matcher(condition).find()
            && !condition.contains("||");
    }

    /** Rows are made in constructors; in a loop only with a constant's bound. */
    private void inNoOpenLoop(Tree tree) {
        for (TreePath path = getCurrentPath(); path != null; path = path.getParentPath()) {
            Tree leaf = path.getLeaf();
            rule(12, tree, "not in while", leaf.getKind() != Tree.Kind.WHILE_LOOP
                && leaf.getKind() != Tree.Kind.DO_WHILE_LOOP);
            if (leaf instanceof ForLoopTree) {
                String bound = ((ForLoopTree) leaf).getCondition().toString();
                rule(12, tree, "in a loop to a constant", bound.matches("\\w+ < [A-Z_]+"));
            }
        }
    }

    private void note(ExecutableElement called) {
        for (TreePath path = getCurrentPath(); path != null; path = path.getParentPath()) {
            if (path.getLeaf() instanceof MethodTree) {
                calls.computeIfAbsent(nameOf(trees.getElement(path)), n -> new TreeSet<>()).add(nameOf(called));
                return;
            }
        }
    }

    // ---- when all is read ----

    private void callsEnd() {
        for (String name : calls.keySet()) {
            int deep = depthOf(name, new ArrayList<>());
            C.isTrue("rule 8, 11: " + name + " goes " + deep + " deep", deep <= DEEPEST);
        }
    }

    /** How many calls stand open at once; far too many where a call comes back to itself. */
    private int depthOf(String name, List<String> open) {
        if (open.contains(name)) {
            return 1000;
        }
        open.add(name);
        int most = 0;
        for (String called : calls.getOrDefault(name, Set.of())) {
            most = Math.max(most, depthOf(called, open));
        }
        open.remove(open.size() - 1);
        return most + 1;
    }

    private void divisorsAreTested() {
        C.isTrue("there are divisors", !divisors.isEmpty());
        for (TreePath path : divisors) {
            Tree divisor = path.getLeaf();
            rule(7, divisor, "the divisor " + divisor + " is tested",
                isAboveNothing((ExpressionTree) divisor) || isAskedFor(path));
        }
    }

    /** A constant, a Math.max with one, or a variable that is never set to anything else. */
    private boolean isAboveNothing(ExpressionTree tree) {
        if (tree instanceof LiteralTree) {
            Object value = ((LiteralTree) tree).getValue();
            return value instanceof Number && ((Number) value).longValue() > 0;
        }
        if (tree instanceof MethodInvocationTree) {
            MethodInvocationTree call = (MethodInvocationTree) tree;
            return call.getMethodSelect().toString().equals("Math.max") && isAboveNothing(call.getArguments().get(0));
        }
        if (!(tree instanceof IdentifierTree) && !(tree instanceof MemberSelectTree)) {
            return false;
        }
        Element element = elementOf(tree);
        if (element instanceof VariableElement && ((VariableElement) element).getConstantValue() != null) {
            return ((Number) ((VariableElement) element).getConstantValue()).longValue() > 0;
        }
        List<ExpressionTree> all = values.getOrDefault(element, List.of());
        boolean holds = !all.isEmpty() && element.getKind() != ElementKind.PARAMETER;
        for (ExpressionTree value : all) {
            holds = holds && value != null && isAboveNothing(value);
        }
        return holds;
    }

    /** Whether a condition around it asks for it. */
    private static boolean isAskedFor(TreePath divisor) {
        String name = Pattern.quote(divisor.getLeaf().toString());
        Pattern asked = Pattern.compile("\\b" + name + " (!=|>) 0 &&|&& " + name + " (!=|>) 0|\\b" + name + " == 0 \\?");
        for (TreePath path = divisor; !(path.getLeaf() instanceof MethodTree); path = path.getParentPath()) {
            if (path.getLeaf() instanceof ExpressionTree || path.getLeaf() instanceof ForLoopTree) {
                if (asked.matcher(path.getLeaf().toString()).find()) {
                    return true;
                }
            }
        }
        return false;
    }
}
