import com.sun.source.tree.ArrayAccessTree;
import com.sun.source.tree.AssertTree;
import com.sun.source.tree.AssignmentTree;
import com.sun.source.tree.BinaryTree;
import com.sun.source.tree.ClassTree;
import com.sun.source.tree.CompilationUnitTree;
import com.sun.source.tree.DoWhileLoopTree;
import com.sun.source.tree.EnhancedForLoopTree;
import com.sun.source.tree.ExpressionTree;
import com.sun.source.tree.ForLoopTree;
import com.sun.source.tree.IfTree;
import com.sun.source.tree.ImportTree;
import com.sun.source.tree.InstanceOfTree;
import com.sun.source.tree.LambdaExpressionTree;
import com.sun.source.tree.MemberReferenceTree;
import com.sun.source.tree.MethodInvocationTree;
import com.sun.source.tree.MethodTree;
import com.sun.source.tree.NewArrayTree;
import com.sun.source.tree.NewClassTree;
import com.sun.source.tree.ParenthesizedTree;
import com.sun.source.tree.StatementTree;
import com.sun.source.tree.SynchronizedTree;
import com.sun.source.tree.ThrowTree;
import com.sun.source.tree.Tree;
import com.sun.source.tree.TryTree;
import com.sun.source.tree.TypeCastTree;
import com.sun.source.tree.UnaryTree;
import com.sun.source.tree.VariableTree;
import com.sun.source.tree.WhileLoopTree;
import com.sun.source.util.JavacTask;
import com.sun.source.util.TreePath;
import com.sun.source.util.TreePathScanner;
import com.sun.source.util.TreeScanner;
import com.sun.source.util.Trees;
import java.io.IOException;
import java.net.URI;
import java.util.ArrayList;
import java.util.Arrays;
import java.util.LinkedHashMap;
import java.util.LinkedHashSet;
import java.util.List;
import java.util.Map;
import java.util.Set;
import java.util.regex.Matcher;
import java.util.regex.Pattern;
import javax.lang.model.element.Element;
import javax.lang.model.element.ElementKind;
import javax.lang.model.element.Modifier;
import javax.lang.model.element.TypeElement;
import javax.lang.model.type.TypeKind;
import javax.lang.model.type.TypeMirror;
import javax.tools.JavaFileObject;
import javax.tools.SimpleJavaFileObject;
import javax.tools.ToolProvider;

/**
 * Looks through a source of GateSums for what LANGUAGE.md rules out. It is stricter than the rules where that is easier
 * to see: objects are made in field initialisers alone, no method calls itself, a guard stands in the method itself.
 */
final class RuleScan extends TreePathScanner<Void, Void> {
    private static final int MOST_PARAMETERS = 7, MOST_LINES = 60, MOST_DEPTH = 8, MOST_CLASSES = 12, MOST_FIELDS = 20;
    private static final Set<String> LIBRARY = Set.of(
        "Math.min", "Math.max", "Math.abs", "Integer.bitCount", "String.length", "String.charAt", "System.arraycopy");
    private static final Set<String> TYPES = Set.of(
        "int", "long", "boolean", "byte", "int[]", "long[]", "byte[]", "java.lang.String", "void");
    private static final Set<String> CONSTANTS = Set.of(
        "int", "long", "boolean", "char", "java.lang.String", "int[]", "long[]", "char[]", "byte[]");

    private final List<String> faults = new ArrayList<>();
    private final Map<Element, Set<Element>> calls = new LinkedHashMap<>();
    private final Set<String> openNames = new LinkedHashSet<>();
    private final Set<String> ownNames = new LinkedHashSet<>();
    private CompilationUnitTree unit;
    private Trees trees;
    private String source;
    private int classes;

    /** Each fault told with its rule's number. */
    static List<String> faultsOf(String source) {
        return new RuleScan().scanned(source);
    }

    private List<String> scanned(String text) {
        source = text;
        URI name = URI.create("string:///GateSums.java");
        JavaFileObject file = new SimpleJavaFileObject(name, JavaFileObject.Kind.SOURCE) {
            @Override
            public CharSequence getCharContent(boolean ignored) {
                return text;
            }
        };
        JavacTask task = (JavacTask) ToolProvider.getSystemJavaCompiler().getTask(null, null,
            found -> faults.add("does not compile: " + found), List.of("-proc:none"), null, List.of(file));
        try {
            unit = task.parse().iterator().next();
            task.analyze();
        } catch (IOException failed) {
            throw new IllegalStateException(failed);
        }
        trees = Trees.instance(task);
        fault(4, unit.getPackage() != null, "a package");
        scan(unit, null);
        lookAtCalls();
        return faults;
    }

    private void fault(int rule, boolean holds, String what) {
        if (holds) {
            faults.add("rule " + rule + ": " + what);
        }
    }

    // ---- what stands around a place

    private Element element() {
        return trees.getElement(getCurrentPath());
    }

    private TypeMirror typeOf(Tree tree) {
        return trees.getTypeMirror(new TreePath(getCurrentPath(), tree));
    }

    private MethodTree method() {
        for (TreePath path = getCurrentPath(); path != null; path = path.getParentPath()) {
            if (path.getLeaf() instanceof MethodTree found) {
                return found;
            }
        }
        return null;
    }

    private String textOf(Tree tree) {
        int from = (int) trees.getSourcePositions().getStartPosition(unit, tree);
        int to = (int) trees.getSourcePositions().getEndPosition(unit, tree);
        return from < 0 || to < from ? "" : source.substring(from, to);
    }

    private static boolean isOwn(Element element) {
        Element around = element;
        while (around != null && !around.toString().equals("GateSums")) {
            around = around.getEnclosingElement();
        }
        return around != null;
    }

    // ---- rules 1, 2, 11: the face, classes, sizes

    @Override
    public Void visitClass(ClassTree tree, Void none) {
        classes++;
        fault(11, classes > MOST_CLASSES, "too many classes");
        TypeElement type = (TypeElement) element();
        boolean outer = type.getSimpleName().contentEquals("GateSums");
        fault(2, !outer && !type.getNestingKind().isNested(), tree.getSimpleName() + " stands beside GateSums");
        fault(2, !outer && !type.getModifiers().contains(Modifier.STATIC), tree.getSimpleName() + " is not static");
        fault(1, !outer && type.getModifiers().contains(Modifier.PUBLIC), tree.getSimpleName() + " is public");
        fault(1, !outer && type.getModifiers().contains(Modifier.PROTECTED), tree.getSimpleName() + " is protected");
        long fields = type.getEnclosedElements().stream()
            .filter(e -> e.getKind() == ElementKind.FIELD && !e.getModifiers().contains(Modifier.STATIC)).count();
        fault(11, fields > MOST_FIELDS, tree.getSimpleName() + " has too many fields");
        fault(5, tree.getMembers().stream().anyMatch(m -> m.getKind() == Tree.Kind.BLOCK), "an initialiser block");
        return super.visitClass(tree, none);
    }

    @Override
    public Void visitMethod(MethodTree tree, Void none) {
        Element method = element();
        boolean isPublic = method.getModifiers().contains(Modifier.PUBLIC);
        boolean ofOuter = method.getEnclosingElement().getSimpleName().contentEquals("GateSums");
        boolean isPrivate = method.getModifiers().contains(Modifier.PRIVATE);
        calls.computeIfAbsent(method, e -> new LinkedHashSet<>());
        if (ofOuter && isPublic) {
            openNames.add(tree.getName().toString());
        } else {
            ownNames.add(tree.getName().toString());
            fault(1, ofOuter && !isPrivate, tree.getName() + " is not private");
        }
        fault(11, tree.getParameters().size() > MOST_PARAMETERS, tree.getName() + " has too many parameters");
        fault(11, textOf(tree).lines().count() > MOST_LINES, tree.getName() + " is too long");
        boolean ofObjects = Set.of("equals", "hashCode", "toString").contains(tree.getName().toString());
        fault(6, ofObjects, tree.getName() + " of an own object");
        if (tree.getReturnType() != null) {
            lookAtType(typeOf(tree.getReturnType()), tree.getName().toString());
        }
        return super.visitMethod(tree, none);
    }

    private void lookAtCalls() {
        for (String name : ownNames) {
            fault(1, openNames.contains(name) && !name.equals("<init>"), name + " bears the name of a public method");
        }
        for (Element method : calls.keySet()) {
            int depth = depth(method, new ArrayList<>());
            fault(11, depth > MOST_DEPTH, method + " opens " + depth + " calls");
        }
    }

    /** How many calls stand open at most, this one counted. */
    private int depth(Element method, List<Element> open) {
        if (open.contains(method)) {
            fault(8, true, method + " calls itself");
            return 0;
        }
        open.add(method);
        int deepest = 0;
        for (Element next : calls.getOrDefault(method, Set.of())) {
            deepest = Math.max(deepest, depth(next, open));
        }
        open.remove(open.size() - 1);
        return deepest + 1;
    }

    // ---- rules 2, 6: what is not written at all

    @Override
    public Void visitLambdaExpression(LambdaExpressionTree tree, Void none) {
        fault(2, true, "a lambda");
        return super.visitLambdaExpression(tree, none);
    }

    @Override
    public Void visitMemberReference(MemberReferenceTree tree, Void none) {
        fault(2, true, "a method reference");
        return super.visitMemberReference(tree, none);
    }

    @Override
    public Void visitThrow(ThrowTree tree, Void none) {
        fault(6, true, "throw");
        return super.visitThrow(tree, none);
    }

    @Override
    public Void visitTry(TryTree tree, Void none) {
        fault(6, true, "try");
        return super.visitTry(tree, none);
    }

    @Override
    public Void visitSynchronized(SynchronizedTree tree, Void none) {
        fault(6, true, "synchronized");
        return super.visitSynchronized(tree, none);
    }

    @Override
    public Void visitAssert(AssertTree tree, Void none) {
        fault(6, true, "assert");
        return super.visitAssert(tree, none);
    }

    @Override
    public Void visitInstanceOf(InstanceOfTree tree, Void none) {
        fault(6, true, "instanceof, which this class does without");
        return super.visitInstanceOf(tree, none);
    }

    @Override
    public Void visitTypeCast(TypeCastTree tree, Void none) {
        fault(6, !typeOf(tree.getType()).getKind().isPrimitive(), "a cast among classes: " + tree);
        return super.visitTypeCast(tree, none);
    }

    @Override
    public Void visitImport(ImportTree tree, Void none) {
        fault(4, true, "an import");
        return super.visitImport(tree, none);
    }

    // ---- rules 3, 5: types, static fields

    private void lookAtType(TypeMirror type, String name) {
        boolean isOwnClass = type.getKind() == TypeKind.DECLARED && type.toString().startsWith("GateSums.");
        fault(3, !isOwnClass && !TYPES.contains(type.toString()), name + " is of the type " + type);
    }

    @Override
    public Void visitVariable(VariableTree tree, Void none) {
        Element variable = element();
        lookAtType(variable.asType(), tree.getName().toString());
        boolean isField = variable.getKind() == ElementKind.FIELD;
        Set<Modifier> modifiers = variable.getModifiers();
        if (isField && modifiers.contains(Modifier.STATIC)) {
            String type = variable.asType().toString();
            fault(5, !modifiers.contains(Modifier.FINAL), tree.getName() + " is static, not final");
            fault(5, !CONSTANTS.contains(type), tree.getName() + " is no constant");
            boolean isRow = variable.asType().getKind() == TypeKind.ARRAY;
            boolean written = tree.getInitializer() instanceof NewArrayTree row && row.getInitializers() != null;
            fault(5, isRow && !written, tree.getName() + " is not written out");
        }
        boolean ofOuter = isField && variable.getEnclosingElement().getSimpleName().contentEquals("GateSums");
        boolean isOfTheFace = Set.of("NONE", "BAD", "NO", "FULL").contains(tree.getName().toString());
        fault(1, ofOuter && !isOfTheFace && !modifiers.contains(Modifier.PRIVATE), tree.getName() + " is not private");
        return super.visitVariable(tree, none);
    }

    // ---- rules 4, 12: calls, objects

    @Override
    public Void visitMethodInvocation(MethodInvocationTree tree, Void none) {
        Element called = element();
        if (isOwn(called)) {
            MethodTree from = method();
            Element caller = from == null ? null : trees.getElement(trees.getPath(unit, from));
            if (caller != null) {
                calls.computeIfAbsent(caller, e -> new LinkedHashSet<>()).add(called);
            }
        } else if (!called.getSimpleName().contentEquals("<init>")) {
            String name = called.getEnclosingElement().getSimpleName() + "." + called.getSimpleName();
            fault(4, !LIBRARY.contains(name), "a call of " + name);
            fault(7, name.equals("System.arraycopy") && !beginsWithGuard(method()), "an arraycopy without a guard");
        }
        return super.visitMethodInvocation(tree, none);
    }

    private static boolean beginsWithGuard(MethodTree method) {
        List<? extends StatementTree> body = method == null ? List.of() : method.getBody().getStatements();
        return !body.isEmpty() && body.get(0) instanceof IfTree;
    }

    @Override
    public Void visitNewClass(NewClassTree tree, Void none) {
        fault(2, tree.getClassBody() != null, "a class without a name");
        fault(4, !isOwn(element()), "an object of the library");
        fault(12, method() != null, "an object is made in " + (method() == null ? "" : method().getName()));
        return super.visitNewClass(tree, none);
    }

    @Override
    public Void visitNewArray(NewArrayTree tree, Void none) {
        fault(12, method() != null, "a row is made in " + (method() == null ? "" : method().getName()));
        return super.visitNewArray(tree, none);
    }

    // ---- rules 6, 7, 10: indices, divisors, texts

    @Override
    public Void visitArrayAccess(ArrayAccessTree tree, Void none) {
        String row = tree.getExpression().toString();
        String index = tree.getIndex().toString();
        String text = method() == null ? "" : textOf(method());
        String length = row + ".length";
        boolean low = hasOne(text, index + " >= 0", index + " < 0", "int " + index + " = 0");
        boolean high = hasOne(text, index + " < " + length, index + " >= " + length);
        fault(7, !low || !high, tree + " is not looked at before");
        return super.visitArrayAccess(tree, none);
    }

    private static boolean hasOne(String text, String... parts) {
        return Arrays.stream(parts).anyMatch(text::contains);
    }

    @Override
    public Void visitBinary(BinaryTree tree, Void none) {
        Tree.Kind kind = tree.getKind();
        if (kind == Tree.Kind.DIVIDE || kind == Tree.Kind.REMAINDER) {
            lookAtDivisor(tree.getRightOperand());
        }
        boolean ofTexts = isText(tree.getLeftOperand()) || isText(tree.getRightOperand());
        fault(10, kind == Tree.Kind.PLUS && ofTexts, "texts joined by +");
        fault(6, (kind == Tree.Kind.EQUAL_TO || kind == Tree.Kind.NOT_EQUAL_TO) && ofTexts, "== of texts");
        return super.visitBinary(tree, none);
    }

    private void lookAtDivisor(ExpressionTree divisor) {
        boolean written = divisor.toString().matches("[1-9][0-9]*L?");
        String text = method() == null ? "" : textOf(method());
        fault(7, !written && !text.contains(divisor + " > 0"), divisor + " is not looked at before it divides");
    }

    private boolean isText(ExpressionTree tree) {
        TypeMirror type = typeOf(tree);
        return type != null && type.toString().equals("java.lang.String");
    }

    // ---- rule 9: loops

    @Override
    public Void visitForLoop(ForLoopTree tree, Void none) {
        boolean counts = tree.getUpdate().size() == 1
            && tree.getUpdate().get(0).getExpression() instanceof UnaryTree step
            && step.getKind() == Tree.Kind.POSTFIX_INCREMENT
            && isBound(tree.getCondition(), step.getExpression().toString())
            && !changes(tree.getStatement(), step.getExpression().toString());
        fault(9, !counts, "a for without a counter against a bound: " + tree.getCondition());
        return super.visitForLoop(tree, none);
    }

    @Override
    public Void visitWhileLoop(WhileLoopTree tree, Void none) {
        String body = tree.getStatement().toString();
        Matcher step = Pattern.compile("(\\w+)\\+\\+;").matcher(body);
        fault(9, !step.find() || !isBound(tree.getCondition(), step.group(1)), "a while without a bound: " + body);
        return super.visitWhileLoop(tree, none);
    }

    @Override
    public Void visitDoWhileLoop(DoWhileLoopTree tree, Void none) {
        fault(9, true, "a do, which this class does without");
        return super.visitDoWhileLoop(tree, none);
    }

    @Override
    public Void visitEnhancedForLoop(EnhancedForLoopTree tree, Void none) {
        fault(9, typeOf(tree.getExpression()).getKind() != TypeKind.ARRAY, "a for over what is no row");
        return super.visitEnhancedForLoop(tree, none);
    }

    /** Whether counter < .. or counter <= .. must hold for the loop to go on. */
    private static boolean isBound(ExpressionTree condition, String counter) {
        if (condition instanceof ParenthesizedTree inner) {
            return isBound(inner.getExpression(), counter);
        }
        if (!(condition instanceof BinaryTree both)) {
            return false;
        }
        if (both.getKind() == Tree.Kind.CONDITIONAL_AND) {
            return isBound(both.getLeftOperand(), counter) || isBound(both.getRightOperand(), counter);
        }
        boolean below = both.getKind() == Tree.Kind.LESS_THAN || both.getKind() == Tree.Kind.LESS_THAN_EQUAL;
        return below && both.getLeftOperand().toString().equals(counter);
    }

    private static boolean changes(Tree body, String counter) {
        boolean[] found = new boolean[1];
        new TreeScanner<Void, Void>() {
            @Override
            public Void visitAssignment(AssignmentTree tree, Void none) {
                found[0] |= tree.getVariable().toString().equals(counter);
                return super.visitAssignment(tree, none);
            }

            @Override
            public Void visitUnary(UnaryTree tree, Void none) {
                boolean steps = tree.getKind().name().contains("CREMENT");
                found[0] |= steps && tree.getExpression().toString().equals(counter);
                return super.visitUnary(tree, none);
            }
        }.scan(body, null);
        return found[0];
    }
}
