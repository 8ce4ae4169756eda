import com.sun.source.tree.AnnotationTree;
import com.sun.source.tree.AssertTree;
import com.sun.source.tree.AssignmentTree;
import com.sun.source.tree.BinaryTree;
import com.sun.source.tree.ClassTree;
import com.sun.source.tree.CompilationUnitTree;
import com.sun.source.tree.CompoundAssignmentTree;
import com.sun.source.tree.DoWhileLoopTree;
import com.sun.source.tree.EnhancedForLoopTree;
import com.sun.source.tree.ExpressionTree;
import com.sun.source.tree.ForLoopTree;
import com.sun.source.tree.IdentifierTree;
import com.sun.source.tree.ImportTree;
import com.sun.source.tree.InstanceOfTree;
import com.sun.source.tree.LambdaExpressionTree;
import com.sun.source.tree.LiteralTree;
import com.sun.source.tree.MemberReferenceTree;
import com.sun.source.tree.MemberSelectTree;
import com.sun.source.tree.MethodInvocationTree;
import com.sun.source.tree.MethodTree;
import com.sun.source.tree.NewArrayTree;
import com.sun.source.tree.NewClassTree;
import com.sun.source.tree.ParenthesizedTree;
import com.sun.source.tree.SwitchExpressionTree;
import com.sun.source.tree.SynchronizedTree;
import com.sun.source.tree.ThrowTree;
import com.sun.source.tree.Tree;
import com.sun.source.tree.TryTree;
import com.sun.source.tree.TypeCastTree;
import com.sun.source.tree.VariableTree;
import com.sun.source.tree.WhileLoopTree;
import com.sun.source.util.JavacTask;
import com.sun.source.util.TreePath;
import com.sun.source.util.TreePathScanner;
import com.sun.source.util.Trees;
import java.io.IOException;
import java.nio.charset.StandardCharsets;
import java.nio.file.Files;
import java.nio.file.Path;
import java.util.ArrayList;
import java.util.HashMap;
import java.util.HashSet;
import java.util.LinkedHashMap;
import java.util.LinkedHashSet;
import java.util.List;
import java.util.Map;
import java.util.Set;
import java.util.regex.Pattern;
import javax.lang.model.element.Element;
import javax.lang.model.element.ElementKind;
import javax.lang.model.element.ExecutableElement;
import javax.lang.model.element.Modifier;
import javax.lang.model.element.NestingKind;
import javax.lang.model.element.TypeElement;
import javax.lang.model.element.VariableElement;
import javax.lang.model.type.TypeMirror;
import javax.tools.JavaCompiler;
import javax.tools.StandardJavaFileManager;
import javax.tools.ToolProvider;

/** Rules 1 to 13 of LANGUAGE.md, as far as the compiler's own reading of the class shows them. */
public final class LanguageTest extends TreePathScanner<Void, Void> {
    private static final Path SOURCE = Path.of("src/main/java/AmberGrains.java");
    private static final String OUTER = "AmberGrains";

    // Rule 4: of what it lists, what a class without lists needs.
    private static final Set<String> LIBRARY = Set.of(
        "java.lang.String.length", "java.lang.String.charAt", "java.lang.String.isEmpty", "java.lang.String.equals",
        "java.lang.String.indexOf", "java.lang.String.substring", "java.lang.String.toCharArray",
        "java.lang.Integer.bitCount", "java.lang.Math.min", "java.lang.Math.max", "java.lang.Math.abs",
        "java.lang.Math.floorDiv", "java.lang.Math.floorMod", "java.lang.System.arraycopy", "java.util.Arrays.copyOf",
        "java.util.Arrays.copyOfRange", "java.util.Arrays.fill");
    private static final Set<String> NUMBERS = Set.of("int", "long", "short", "byte", "char", "boolean");
    private static final Set<String> CONSTANT_ROWS = Set.of("int[]", "long[]", "char[]", "byte[]");
    // Rule 7: divisors that are no constants, each tested where it stands: by > 1 is the loop's own condition.
    private static final Set<String> TESTED_DIVISORS = Set.of("by");

    private static int wrong = 0;

    private final Trees trees;
    private final CompilationUnitTree unit;
    private final Map<ExecutableElement, Set<ExecutableElement>> calls = new LinkedHashMap<>();
    private final Map<ExecutableElement, MethodTree> methods = new HashMap<>();
    private final List<TypeElement> classes = new ArrayList<>();
    private ExecutableElement in = null;

    private LanguageTest(Trees trees, CompilationUnitTree unit) {
        this.trees = trees;
        this.unit = unit;
    }

    public static void main(String[] args) throws IOException {
        JavaCompiler javac = ToolProvider.getSystemJavaCompiler();
        try (StandardJavaFileManager files = javac.getStandardFileManager(null, null, null)) {
            List<String> how = List.of("-proc:none");
            JavacTask task = (JavacTask) javac.getTask(null, files, null, how, null, files.getJavaFileObjects(SOURCE));
            for (CompilationUnitTree unit : task.parse()) {
                task.analyze();
                LanguageTest test = new LanguageTest(Trees.instance(task), unit);
                test.scan(unit, null);
                test.theFace();
                test.theCalls();
            }
        }
        theSigns();
        System.out.println(wrong == 0 ? "the rules are kept" : wrong + " times a rule is not kept");
        if (wrong != 0) {
            System.exit(1);
        }
    }

    private static void due(int rule, String what, boolean holds) {
        if (!holds) {
            wrong++;
            System.out.println("rule " + rule + ", not so: " + what);
        }
    }

    private String place(Tree tree) {
        long line = unit.getLineMap().getLineNumber(trees.getSourcePositions().getStartPosition(unit, tree));
        return "line " + line + ", " + tree.toString().trim().split("\n")[0];
    }

    private void no(int rule, Tree tree) {
        due(rule, "there is no such thing as in " + place(tree), false);
    }

    private Element element() {
        return trees.getElement(getCurrentPath());
    }

    private TypeMirror type(Tree tree) {
        return trees.getTypeMirror(TreePath.getPath(unit, tree));
    }

    private boolean isBoolean(Tree tree) {
        return type(tree).toString().equals("boolean");
    }

    private boolean isOwn(Element e) {
        return e != null && (e.toString().equals(OUTER) || isOwn(e.getEnclosingElement()));
    }

    // ---- rule 2: classes inside

    @Override
    public Void visitClass(ClassTree tree, Void none) {
        TypeElement c = (TypeElement) element();
        classes.add(c);
        boolean outer = c.getNestingKind() == NestingKind.TOP_LEVEL;
        due(1, "one class outside, " + OUTER, outer == c.getSimpleName().contentEquals(OUTER));
        if (!outer) {
            due(2, c + " is inside of " + OUTER, c.getNestingKind() == NestingKind.MEMBER
                && c.getEnclosingElement().getSimpleName().contentEquals(OUTER));
            due(2, c + " is static", c.getModifiers().contains(Modifier.STATIC));
            due(1, c + " is not open to all", !c.getModifiers().contains(Modifier.PUBLIC)
                && !c.getModifiers().contains(Modifier.PROTECTED));
        }
        int fields = 0;
        for (Tree member : tree.getMembers()) {
            due(5, "no initialiser block: " + place(member), member.getKind() != Tree.Kind.BLOCK);
            Element e = trees.getElement(new TreePath(getCurrentPath(), member));
            fields += e.getKind() == ElementKind.FIELD && !e.getModifiers().contains(Modifier.STATIC) ? 1 : 0;
        }
        due(11, c + " has some twenty fields, not " + fields, fields <= 20);
        return super.visitClass(tree, none);
    }

    @Override
    public Void visitLambdaExpression(LambdaExpressionTree tree, Void none) {
        no(2, tree);
        return super.visitLambdaExpression(tree, none);
    }

    @Override
    public Void visitMemberReference(MemberReferenceTree tree, Void none) {
        no(2, tree);
        return super.visitMemberReference(tree, none);
    }

    @Override
    public Void visitAnnotation(AnnotationTree tree, Void none) {
        no(4, tree);
        return super.visitAnnotation(tree, none);
    }

    // ---- rules 3 and 5: types, static fields

    @Override
    public Void visitVariable(VariableTree tree, Void none) {
        VariableElement v = (VariableElement) element();
        due(3, "a type that may be: " + place(tree), mayBe(v.asType().toString()));
        if (v.getModifiers().contains(Modifier.STATIC)) {
            String type = v.asType().toString();
            due(5, "it is final: " + place(tree), v.getModifiers().contains(Modifier.FINAL));
            boolean row = CONSTANT_ROWS.contains(type) && tree.getInitializer().getKind() == Tree.Kind.NEW_ARRAY;
            due(5, "it is a constant: " + place(tree),
                row || v.getConstantValue() != null && (NUMBERS.contains(type) || type.equals("java.lang.String")));
        }
        return super.visitVariable(tree, none);
    }

    private static boolean mayBe(String type) {
        if (type.endsWith("[]")) {
            String of = type.substring(0, type.length() - 2);
            return NUMBERS.contains(of) || of.startsWith(OUTER + ".")
                || of.endsWith("[]") && NUMBERS.contains(of.substring(0, of.length() - 2));
        }
        return NUMBERS.contains(type) || type.equals("java.lang.String") || type.startsWith(OUTER + ".");
    }

    @Override
    public Void visitAssignment(AssignmentTree tree, Void none) {
        neverChanged(tree.getVariable());
        return super.visitAssignment(tree, none);
    }

    private void neverChanged(ExpressionTree at) {
        if (at instanceof com.sun.source.tree.ArrayAccessTree a) {
            Element e = trees.getElement(TreePath.getPath(unit, a.getExpression()));
            due(5, "a static row is never changed: " + place(at), !e.getModifiers().contains(Modifier.STATIC));
        }
    }

    // ---- rule 4: the library

    @Override
    public Void visitImport(ImportTree tree, Void none) {
        due(4, place(tree), Pattern.matches("java\\.util\\.(Arrays|ArrayList|List)",
            tree.getQualifiedIdentifier().toString()) && !tree.isStatic());
        return super.visitImport(tree, none);
    }

    @Override
    public Void visitMethodInvocation(MethodInvocationTree tree, Void none) {
        ExecutableElement called = (ExecutableElement) element();
        String name = called.getEnclosingElement() + "." + called.getSimpleName();
        if (isOwn(called)) {
            calls.get(in).add(called);
        } else if (!name.equals("java.lang.Object.<init>")) {
            due(4, name + " is listed: " + place(tree), LIBRARY.contains(name));
        }
        return super.visitMethodInvocation(tree, none);
    }

    @Override
    public Void visitNewClass(NewClassTree tree, Void none) {
        Element made = element();
        due(2, "no class without a name: " + place(tree), tree.getClassBody() == null);
        due(4, "an object of a class of one's own: " + place(tree), isOwn(made));
        if (in != null) {
            calls.get(in).add((ExecutableElement) made);
        }
        return super.visitNewClass(tree, none);
    }

    @Override
    public Void visitMemberSelect(MemberSelectTree tree, Void none) {
        Element e = element();
        if (e.getKind() == ElementKind.FIELD && !isOwn(e)) {
            boolean known = e.getSimpleName().contentEquals("length") || tree.toString().equals("Long.MIN_VALUE");
            due(4, "a field of the library: " + place(tree), known);
        }
        return super.visitMemberSelect(tree, none);
    }

    // ---- rule 6

    @Override
    public Void visitThrow(ThrowTree tree, Void none) {
        no(6, tree);
        return super.visitThrow(tree, none);
    }

    @Override
    public Void visitTry(TryTree tree, Void none) {
        no(6, tree);
        return super.visitTry(tree, none);
    }

    @Override
    public Void visitSynchronized(SynchronizedTree tree, Void none) {
        no(6, tree);
        return super.visitSynchronized(tree, none);
    }

    @Override
    public Void visitAssert(AssertTree tree, Void none) {
        no(6, tree);
        return super.visitAssert(tree, none);
    }

    @Override
    public Void visitInstanceOf(InstanceOfTree tree, Void none) {
        no(6, tree);
        return super.visitInstanceOf(tree, none);
    }

    @Override
    public Void visitSwitchExpression(SwitchExpressionTree tree, Void none) {
        no(6, tree);
        return super.visitSwitchExpression(tree, none);
    }

    @Override
    public Void visitTypeCast(TypeCastTree tree, Void none) {
        due(6, "a cast of numbers: " + place(tree), NUMBERS.contains(type(tree).toString()));
        return super.visitTypeCast(tree, none);
    }

    // ---- rules 6, 7 and 10: what is joined by a sign

    @Override
    public Void visitBinary(BinaryTree tree, Void none) {
        String left = type(tree.getLeftOperand()).toString();
        String right = type(tree.getRightOperand()).toString();
        boolean texts = left.equals("java.lang.String") || right.equals("java.lang.String");
        switch (tree.getKind()) {
            case EQUAL_TO, NOT_EQUAL_TO -> due(6, "no texts by ==: " + place(tree), !texts);
            case DIVIDE, REMAINDER -> divisor(tree.getRightOperand());
            case AND, OR, XOR -> due(10, "of numbers: " + place(tree), !isBoolean(tree));
            default -> due(10, "no texts by +: " + place(tree), !texts);
        }
        return super.visitBinary(tree, none);
    }

    private void divisor(ExpressionTree by) {
        Element e = trees.getElement(TreePath.getPath(unit, by));
        Object value = by instanceof LiteralTree l ? l.getValue() : e instanceof VariableElement v ? v.getConstantValue() : null;
        boolean tested = by instanceof IdentifierTree i && TESTED_DIVISORS.contains(i.getName().toString());
        due(7, "a divisor that is not 0: " + place(by), tested || value instanceof Integer n && n != 0);
    }

    @Override
    public Void visitCompoundAssignment(CompoundAssignmentTree tree, Void none) {
        due(10, "of numbers: " + place(tree), NUMBERS.contains(type(tree.getVariable()).toString()) && !isBoolean(tree));
        boolean divides = tree.getKind() == Tree.Kind.DIVIDE_ASSIGNMENT || tree.getKind() == Tree.Kind.REMAINDER_ASSIGNMENT;
        due(7, "a divisor that is not 0: " + place(tree), !divides);
        neverChanged(tree.getVariable());
        return super.visitCompoundAssignment(tree, none);
    }

    // ---- rules 9 and 12: loops, and what is made in them

    private void end(ExpressionTree condition, Tree loop) {
        boolean[] compares = {false};
        new TreePathScanner<Void, Void>() {
            @Override
            public Void visitBinary(BinaryTree tree, Void none) {
                compares[0] |= switch (tree.getKind()) {
                    case LESS_THAN, LESS_THAN_EQUAL, GREATER_THAN, GREATER_THAN_EQUAL -> true;
                    default -> false;
                };
                return super.visitBinary(tree, none);
            }
        }.scan(condition == null ? null : TreePath.getPath(unit, condition), null);
        due(9, "a counter against a bound: " + place(loop), compares[0]);
    }

    @Override
    public Void visitForLoop(ForLoopTree tree, Void none) {
        end(tree.getCondition(), tree);
        due(9, "a counter goes on: " + place(tree), tree.getUpdate().size() == 1 && tree.getInitializer().size() == 1);
        return super.visitForLoop(tree, none);
    }

    @Override
    public Void visitWhileLoop(WhileLoopTree tree, Void none) {
        end(tree.getCondition(), tree);
        return super.visitWhileLoop(tree, none);
    }

    @Override
    public Void visitDoWhileLoop(DoWhileLoopTree tree, Void none) {
        end(((ParenthesizedTree) tree.getCondition()).getExpression(), tree);
        return super.visitDoWhileLoop(tree, none);
    }

    @Override
    public Void visitEnhancedForLoop(EnhancedForLoopTree tree, Void none) {
        due(9, "over an array: " + place(tree), type(tree.getExpression()).toString().endsWith("[]"));
        return super.visitEnhancedForLoop(tree, none);
    }

    @Override
    public Void visitNewArray(NewArrayTree tree, Void none) {
        due(12, "rows are made with their object: " + place(tree),
            in == null || in.getKind() == ElementKind.CONSTRUCTOR);
        return super.visitNewArray(tree, none);
    }

    // ---- rules 1, 8 and 11: methods

    @Override
    public Void visitMethod(MethodTree tree, Void none) {
        ExecutableElement m = (ExecutableElement) element();
        in = m;
        calls.put(m, new LinkedHashSet<>());
        methods.put(m, tree);
        due(3, "a type that may be: " + place(tree), m.getKind() == ElementKind.CONSTRUCTOR
            || m.getReturnType().toString().equals("void") || mayBe(m.getReturnType().toString()));
        due(6, "not one of Object's: " + m, !Set.of("equals", "hashCode", "toString").contains(m.getSimpleName().toString()));
        due(6, m + " declares nothing thrown", m.getThrownTypes().isEmpty());
        due(11, m + " has seven parameters at most", m.getParameters().size() <= 7);
        long begin = trees.getSourcePositions().getStartPosition(unit, tree);
        long end = trees.getSourcePositions().getEndPosition(unit, tree);
        long lines = begin < 0 || end < 0 ? 0 : unit.getLineMap().getLineNumber(end) - unit.getLineMap().getLineNumber(begin) + 1;
        due(11, m + " has some sixty lines, not " + lines, lines <= 60);
        super.visitMethod(tree, none);
        in = null;
        return null;
    }

    private void theFace() {
        due(11, "some twelve classes", classes.size() <= 12);
        Set<String> open = new HashSet<>();
        for (ExecutableElement m : calls.keySet()) {
            boolean outer = m.getEnclosingElement().getSimpleName().contentEquals(OUTER);
            boolean isOpen = outer && m.getModifiers().contains(Modifier.PUBLIC);
            due(1, m + " is public or private", !outer || isOpen || m.getModifiers().contains(Modifier.PRIVATE));
            if (isOpen) {
                open.add(m.getSimpleName().toString());
            }
        }
        for (ExecutableElement m : calls.keySet()) {
            boolean outer = m.getEnclosingElement().getSimpleName().contentEquals(OUTER);
            boolean isOpen = outer && m.getModifiers().contains(Modifier.PUBLIC);
            due(1, m + " bears no public name",
                isOpen || m.getKind() == ElementKind.CONSTRUCTOR || !open.contains(m.getSimpleName().toString()));
        }
    }

    private void theCalls() {
        Map<ExecutableElement, Set<ExecutableElement>> reached = new HashMap<>();
        for (ExecutableElement m : calls.keySet()) {
            reached.put(m, reachedFrom(m));
        }
        for (ExecutableElement m : calls.keySet()) {
            boolean again = reached.get(m).contains(m);
            boolean guarded = m.getParameters().stream().anyMatch(p -> p.getSimpleName().contentEquals("depth"));
            due(8, m + " carries its depth", !again || guarded);
            due(8, m + " is private", !again || m.getModifiers().contains(Modifier.PRIVATE));
            if (m.getKind() == ElementKind.CONSTRUCTOR) {
                due(12, m + " calls no method", calls.get(m).stream().allMatch(c -> c.getKind() == ElementKind.CONSTRUCTOR));
            }
            int deep = deepest(m, reached, 0);
            due(11, "calls from " + m + " go eight deep at most, not " + deep, deep <= 8);
        }
    }

    private Set<ExecutableElement> reachedFrom(ExecutableElement m) {
        Set<ExecutableElement> all = new HashSet<>();
        List<ExecutableElement> open = new ArrayList<>(calls.get(m));
        while (!open.isEmpty()) {
            ExecutableElement next = open.remove(open.size() - 1);
            if (all.add(next)) {
                open.addAll(calls.getOrDefault(next, Set.of()));
            }
        }
        return all;
    }

    /** How many methods stand open at once from this one on; those that call one another count once each. */
    private int deepest(ExecutableElement m, Map<ExecutableElement, Set<ExecutableElement>> reached, int above) {
        int most = 0;
        for (ExecutableElement c : calls.getOrDefault(m, Set.of())) {
            boolean back = reached.containsKey(c) && reached.get(c).contains(m);
            boolean first = back && above == 0 && c != m;
            if (!back) {
                most = Math.max(most, deepest(c, reached, 0));
            } else if (first) {
                most = Math.max(most, deepest(c, reached, 1));
            }
        }
        return most + 1;
    }

    // ---- what the text of the class is made of

    private static void theSigns() throws IOException {
        String all = Files.readString(SOURCE, StandardCharsets.UTF_8);
        due(4, "signs are 9 to 126", all.chars().allMatch(s -> s < 127));
        due(1, "no package line", !Pattern.compile("(?m)^package\\b").matcher(all).find());
        for (String word : new String[] {"double", "float", "Exact", "Thread", "Random", "Object", "record", "var"}) {
            String code = all.replaceAll("/\\*(?s:.*?)\\*/", "").replaceAll("//[^\n]*", "");
            due(4, word + " stands nowhere", !Pattern.compile("\\b" + word + "\\b").matcher(code).find());
        }
    }
}
