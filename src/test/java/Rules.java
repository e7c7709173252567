import com.sun.source.tree.AssertTree;
import com.sun.source.tree.BinaryTree;
import com.sun.source.tree.BlockTree;
import com.sun.source.tree.ClassTree;
import com.sun.source.tree.CompilationUnitTree;
import com.sun.source.tree.CompoundAssignmentTree;
import com.sun.source.tree.DoWhileLoopTree;
import com.sun.source.tree.ForLoopTree;
import com.sun.source.tree.IdentifierTree;
import com.sun.source.tree.LambdaExpressionTree;
import com.sun.source.tree.LiteralTree;
import com.sun.source.tree.MemberReferenceTree;
import com.sun.source.tree.MemberSelectTree;
import com.sun.source.tree.MethodInvocationTree;
import com.sun.source.tree.MethodTree;
import com.sun.source.tree.NewArrayTree;
import com.sun.source.tree.NewClassTree;
import com.sun.source.tree.SynchronizedTree;
import com.sun.source.tree.ThrowTree;
import com.sun.source.tree.Tree;
import com.sun.source.tree.TryTree;
import com.sun.source.tree.TypeCastTree;
import com.sun.source.tree.VariableTree;
import com.sun.source.tree.WhileLoopTree;
import com.sun.source.util.TreePath;
import com.sun.source.util.TreePathScanner;
import com.sun.source.util.Trees;
import java.util.ArrayList;
import java.util.HashSet;
import java.util.LinkedHashMap;
import java.util.LinkedHashSet;
import java.util.List;
import java.util.Map;
import java.util.Set;
import java.util.TreeSet;
import java.util.regex.Pattern;
import javax.lang.model.element.Element;
import javax.lang.model.element.ElementKind;
import javax.lang.model.element.ExecutableElement;
import javax.lang.model.element.Modifier;
import javax.lang.model.element.TypeElement;
import javax.lang.model.element.VariableElement;
import javax.lang.model.type.TypeMirror;
import javax.lang.model.util.Elements;

/**
 * LANGUAGE.md's rules 2 to 13 over the compiler's tree of a file. Where a rule leaves more than the class uses, the
 * narrower is looked for (no while, no cast to a class): who uses more looks at the rule again and widens this.
 */
final class Rules extends TreePathScanner<Void, Void> {
    private static final String NUMBER = "(int|long|short|byte|char|boolean)";
    private static final String OWN = "TwoServes(\\.\\w+)?";
    private static final Pattern TYPES = Pattern.compile("void|" + NUMBER + "(\\[\\]){0,2}|" + OWN + "(\\[\\])?"
        + "|java\\.lang\\.(String|StringBuilder)|java\\.util\\.(ArrayList|List)<(java\\.lang\\.Integer|" + OWN + ")>");
    private static final Pattern STATIC_TYPES =
        Pattern.compile("(int|long|boolean|char|java\\.lang\\.String)|(int|long|char|byte)\\[\\]");
    private static final Pattern LIBRARY = Pattern.compile("java\\.lang\\.Object"
        + "|java\\.lang\\.String(\\.(length|charAt|isEmpty|equals|indexOf|substring|toCharArray))?"
        + "|java\\.lang\\.StringBuilder(\\.(append|charAt|setCharAt|setLength|deleteCharAt|reverse|length|toString))?"
        + "|java\\.util\\.(ArrayList|List)(\\.(add|get|set|remove|size|isEmpty|clear))?"
        + "|java\\.lang\\.(Integer|Long)|java\\.lang\\.Math(\\.(max|min|abs|floorDiv|floorMod))?"
        + "|java\\.lang\\.System(\\.arraycopy)?|java\\.util\\.Arrays(\\.(copyOf|copyOfRange|fill))?");
    /** The one method that makes objects after the constructor: one SERVER a call. */
    private static final Set<String> MAKERS = Set.of("born");
    /** The one method that divides by what is no constant: by numbers it has looked at. */
    private static final Set<String> DIVIDERS = Set.of("lowest");
    private static final Set<String> RECURSIVE = Set.of("anyOf", "allOf", "factor");
    private static final int DEPTH = 8, LINES = 60, PARAMETERS = 7, CLASSES = 12, FIELDS = 20;

    private final Check check;
    private final CompilationUnitTree unit;
    private final Trees trees;
    private final Elements elements;
    private final Map<ExecutableElement, Set<ExecutableElement>> calls = new LinkedHashMap<>();
    private final List<ExecutableElement[]> overridable = new ArrayList<>();
    private final List<TypeElement> classes = new ArrayList<>();

    Rules(Check check, CompilationUnitTree unit, Trees trees, Elements elements) {
        this.check = check;
        this.unit = unit;
        this.trees = trees;
        this.elements = elements;
    }

    /** What only the file as a whole can tell: rules 8 and 11. */
    void ofTheWhole() {
        check.that("some twelve classes: " + classes, !classes.isEmpty() && classes.size() <= CLASSES);
        addOverriding();
        Set<String> recursive = new TreeSet<>();
        for (ExecutableElement method : calls.keySet()) {
            if (reached(method).contains(method)) {
                recursive.add(method.getSimpleName().toString());
            }
        }
        check.that("only the parts of an E are read by methods that come back to themselves: " + recursive,
            recursive.equals(RECURSIVE));
        for (ExecutableElement method : calls.keySet()) {
            int depth = deepest(method, new HashSet<>());
            check.that("calls from " + method + " go " + depth + " deep", depth <= DEPTH);
        }
    }

    /** A call that is no super. may be one of each method that overrides the one it names. */
    private void addOverriding() {
        for (ExecutableElement[] call : overridable) {
            for (ExecutableElement other : calls.keySet()) {
                if (elements.overrides(other, call[1], (TypeElement) other.getEnclosingElement())) {
                    calls.get(call[0]).add(other);
                }
            }
        }
    }

    private Set<ExecutableElement> reached(ExecutableElement from) {
        Set<ExecutableElement> reached = new LinkedHashSet<>();
        List<ExecutableElement> open = new ArrayList<>(calls.getOrDefault(from, Set.of()));
        while (!open.isEmpty()) {
            ExecutableElement next = open.remove(open.size() - 1);
            if (reached.add(next)) {
                open.addAll(calls.getOrDefault(next, Set.of()));
            }
        }
        return reached;
    }

    /** The longest way without coming back. */
    private int deepest(ExecutableElement from, Set<ExecutableElement> way) {
        if (!way.add(from)) {
            return 0;
        }
        int deepest = 0;
        for (ExecutableElement next : calls.getOrDefault(from, Set.of())) {
            deepest = Math.max(deepest, deepest(next, way));
        }
        way.remove(from);
        return deepest + 1;
    }

    private void not(int rule, String what, Tree tree) {
        check.that("rule " + rule + ", line " + line(tree) + ": " + what, false);
    }

    private void must(int rule, String what, Tree tree, boolean holds) {
        check.that("rule " + rule + ", line " + line(tree) + ": " + what, holds);
    }

    private long line(Tree tree) {
        return unit.getLineMap().getLineNumber(trees.getSourcePositions().getStartPosition(unit, tree));
    }

    private long lines(Tree tree) {
        return unit.getLineMap().getLineNumber(trees.getSourcePositions().getEndPosition(unit, tree)) - line(tree) + 1;
    }

    private Element element(Tree tree) {
        return trees.getElement(new TreePath(getCurrentPath(), tree));
    }

    private TypeMirror type(Tree tree) {
        return trees.getTypeMirror(new TreePath(getCurrentPath(), tree));
    }

    private static boolean isOwn(Element element) {
        Element e = element;
        while (e != null && !(e instanceof TypeElement && e.getEnclosingElement().getKind() == ElementKind.PACKAGE)) {
            e = e.getEnclosingElement();
        }
        return e != null && e.getSimpleName().contentEquals("TwoServes");
    }

    /** The method that this stands in, or null in a field's initialiser. */
    private ExecutableElement method() {
        TreePath path = getCurrentPath();
        while (path != null && !(path.getLeaf() instanceof MethodTree)) {
            path = path.getParentPath();
        }
        return path == null ? null : (ExecutableElement) trees.getElement(path);
    }

    private String methodName() {
        ExecutableElement method = method();
        return method == null ? "" : method.getSimpleName().toString();
    }

    @Override
    public Void visitClass(ClassTree tree, Void nothing) {
        Tree around = getCurrentPath().getParentPath().getLeaf();
        TypeElement type = (TypeElement) trees.getElement(getCurrentPath());
        classes.add(type);
        must(2, "neither local nor anonymous: " + type, tree,
            around instanceof CompilationUnitTree || around instanceof ClassTree && !tree.getSimpleName().isEmpty());
        if (around instanceof ClassTree) {
            must(2, "static: " + type, tree, type.getModifiers().contains(Modifier.STATIC));
            must(1, "neither public nor protected: " + type, tree, !type.getModifiers().contains(Modifier.PUBLIC)
                && !type.getModifiers().contains(Modifier.PROTECTED));
        }
        int fields = 0;
        for (Tree member : tree.getMembers()) {
            fields += member instanceof VariableTree
                && !((VariableTree) member).getModifiers().getFlags().contains(Modifier.STATIC) ? 1 : 0;
        }
        must(11, "some twenty fields: " + type + " has " + fields, tree, fields <= FIELDS);
        return super.visitClass(tree, nothing);
    }

    @Override
    public Void visitMethod(MethodTree tree, Void nothing) {
        ExecutableElement method = (ExecutableElement) trees.getElement(getCurrentPath());
        calls.putIfAbsent(method, new LinkedHashSet<>());
        must(3, "answers a " + method.getReturnType(), tree, TYPES.matcher(method.getReturnType().toString()).matches());
        must(6, "throws nothing: " + method, tree, tree.getThrows().isEmpty());
        must(6, "no equals, hashCode, toString of its own", tree,
            !Set.of("equals", "hashCode", "toString").contains(tree.getName().toString()));
        must(11, "seven parameters: " + method, tree, tree.getParameters().size() <= PARAMETERS);
        must(11, "some sixty lines: " + method, tree, lines(tree) <= LINES);
        return super.visitMethod(tree, nothing);
    }

    @Override
    public Void visitVariable(VariableTree tree, Void nothing) {
        VariableElement variable = (VariableElement) trees.getElement(getCurrentPath());
        String type = variable.asType().toString();
        must(3, "a " + type, tree, TYPES.matcher(type).matches());
        if (variable.getModifiers().contains(Modifier.STATIC)) {
            must(5, variable + " is final", tree, variable.getModifiers().contains(Modifier.FINAL));
            must(5, variable + " is a constant", tree, STATIC_TYPES.matcher(type).matches());
            must(5, variable + " is written out", tree, variable.getConstantValue() != null
                || tree.getInitializer() instanceof NewArrayTree
                && ((NewArrayTree) tree.getInitializer()).getInitializers() != null);
        }
        return super.visitVariable(tree, nothing);
    }

    @Override
    public Void visitMethodInvocation(MethodInvocationTree tree, Void nothing) {
        ExecutableElement called = (ExecutableElement) element(tree);
        if (isOwn(called)) {
            if (method() != null) {
                calls.computeIfAbsent(method(), m -> new LinkedHashSet<>()).add(called);
                if (!tree.getMethodSelect().toString().startsWith("super")) {
                    overridable.add(new ExecutableElement[] {method(), called});
                }
            }
            must(12, "a constructor calls only another one: " + called, tree,
                !methodName().equals("<init>") || called.getKind() == ElementKind.CONSTRUCTOR);
        } else if (called.getKind() == ElementKind.METHOD) {
            String name = called.getEnclosingElement() + "." + called.getSimpleName();
            must(4, name, tree, LIBRARY.matcher(name.replaceAll("<.*>", "")).matches());
        }
        return super.visitMethodInvocation(tree, nothing);
    }

    @Override
    public Void visitNewClass(NewClassTree tree, Void nothing) {
        String made = type(tree).toString();
        must(4, "new " + made, tree, TYPES.matcher(made).matches() && !made.equals("java.lang.String"));
        must(2, "no body of its own", tree, tree.getClassBody() == null);
        madeHere(tree);
        return super.visitNewClass(tree, nothing);
    }

    @Override
    public Void visitNewArray(NewArrayTree tree, Void nothing) {
        madeHere(tree);
        return super.visitNewArray(tree, nothing);
    }

    private void madeHere(Tree tree) {
        String method = methodName();
        must(12, "made in " + method, tree, method.isEmpty() || method.equals("<init>") || MAKERS.contains(method));
    }

    @Override
    public Void visitIdentifier(IdentifierTree tree, Void nothing) {
        named(tree, element(tree));
        return super.visitIdentifier(tree, nothing);
    }

    @Override
    public Void visitMemberSelect(MemberSelectTree tree, Void nothing) {
        named(tree, element(tree));
        return super.visitMemberSelect(tree, nothing);
    }

    /** Rules 4 and 13: a class or a field of the library. */
    private void named(Tree tree, Element element) {
        if (element instanceof TypeElement && !isOwn(element)) {
            must(4, element.toString(), tree, LIBRARY.matcher(element.toString()).matches());
        }
        if (element != null && element.getKind() == ElementKind.FIELD && !isOwn(element)) {
            must(4, "no field of the library but length and the Long.MIN_VALUE of the face: " + element, tree,
                element.getSimpleName().contentEquals("length") || tree.toString().equals("Long.MIN_VALUE"));
        }
    }

    @Override
    public Void visitBinary(BinaryTree tree, Void nothing) {
        String types = type(tree.getLeftOperand()) + " " + type(tree.getRightOperand());
        boolean texts = types.contains("java.lang.String");
        switch (tree.getKind()) {
            case EQUAL_TO: case NOT_EQUAL_TO:
                must(6, "neither two Strings nor two Integers: " + tree, tree,
                    !texts && !types.contains("java.lang.Integer"));
                break;
            case PLUS:
                must(10, "texts are joined by StringBuilder: " + tree, tree, !texts);
                break;
            case DIVIDE: case REMAINDER:
                divides(tree);
                break;
            default:
        }
        return super.visitBinary(tree, nothing);
    }

    /** Rule 7. */
    private void divides(BinaryTree tree) {
        Tree divisor = tree.getRightOperand();
        Element named = element(divisor);
        Object constant = divisor instanceof LiteralTree ? ((LiteralTree) divisor).getValue()
            : named instanceof VariableElement ? ((VariableElement) named).getConstantValue() : null;
        must(7, "divides by a constant that is not 0: " + tree, tree,
            DIVIDERS.contains(methodName()) || constant instanceof Number && ((Number) constant).longValue() != 0);
    }

    @Override
    public Void visitCompoundAssignment(CompoundAssignmentTree tree, Void nothing) {
        must(10, "neither joins texts nor divides: " + tree, tree, tree.getKind() != Tree.Kind.DIVIDE_ASSIGNMENT
            && tree.getKind() != Tree.Kind.REMAINDER_ASSIGNMENT && !type(tree.getVariable()).toString().contains("String"));
        return super.visitCompoundAssignment(tree, nothing);
    }

    @Override
    public Void visitTypeCast(TypeCastTree tree, Void nothing) {
        must(6, "a cast of numbers: " + tree, tree, type(tree.getType()).getKind().isPrimitive());
        return super.visitTypeCast(tree, nothing);
    }

    @Override
    public Void visitForLoop(ForLoopTree tree, Void nothing) {
        must(9, "ends by a condition and a count", tree, tree.getCondition() != null && !tree.getUpdate().isEmpty());
        return super.visitForLoop(tree, nothing);
    }

    @Override
    public Void visitWhileLoop(WhileLoopTree tree, Void nothing) {
        not(9, "a while, whose end is to be seen", tree);
        return super.visitWhileLoop(tree, nothing);
    }

    @Override
    public Void visitDoWhileLoop(DoWhileLoopTree tree, Void nothing) {
        not(9, "a do, whose end is to be seen", tree);
        return super.visitDoWhileLoop(tree, nothing);
    }

    @Override
    public Void visitLiteral(LiteralTree tree, Void nothing) {
        String signs = tree.getValue() instanceof String || tree.getValue() instanceof Character
            ? tree.getValue().toString() : "";
        must(4, "signs 1 to 127: " + tree, tree, signs.chars().allMatch(sign -> sign >= 1 && sign <= 127));
        return super.visitLiteral(tree, nothing);
    }

    @Override
    public Void visitBlock(BlockTree tree, Void nothing) {
        must(5, "no static initialiser", tree, !tree.isStatic());
        return super.visitBlock(tree, nothing);
    }

    @Override
    public Void visitLambdaExpression(LambdaExpressionTree tree, Void nothing) {
        not(2, "a lambda", tree);
        return super.visitLambdaExpression(tree, nothing);
    }

    @Override
    public Void visitMemberReference(MemberReferenceTree tree, Void nothing) {
        not(2, "a method reference", tree);
        return super.visitMemberReference(tree, nothing);
    }

    @Override
    public Void visitThrow(ThrowTree tree, Void nothing) {
        not(6, "throw", tree);
        return super.visitThrow(tree, nothing);
    }

    @Override
    public Void visitTry(TryTree tree, Void nothing) {
        not(6, "try", tree);
        return super.visitTry(tree, nothing);
    }

    @Override
    public Void visitSynchronized(SynchronizedTree tree, Void nothing) {
        not(6, "synchronized", tree);
        return super.visitSynchronized(tree, nothing);
    }

    @Override
    public Void visitAssert(AssertTree tree, Void nothing) {
        not(6, "assert", tree);
        return super.visitAssert(tree, nothing);
    }
}
