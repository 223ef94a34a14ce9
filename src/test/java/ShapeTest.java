import com.sun.source.tree.AssertTree;
import com.sun.source.tree.AssignmentTree;
import com.sun.source.tree.BinaryTree;
import com.sun.source.tree.BlockTree;
import com.sun.source.tree.ClassTree;
import com.sun.source.tree.CompilationUnitTree;
import com.sun.source.tree.CompoundAssignmentTree;
import com.sun.source.tree.DoWhileLoopTree;
import com.sun.source.tree.ForLoopTree;
import com.sun.source.tree.LambdaExpressionTree;
import com.sun.source.tree.MemberReferenceTree;
import com.sun.source.tree.MethodInvocationTree;
import com.sun.source.tree.MethodTree;
import com.sun.source.tree.NewArrayTree;
import com.sun.source.tree.NewClassTree;
import com.sun.source.tree.SynchronizedTree;
import com.sun.source.tree.ThrowTree;
import com.sun.source.tree.Tree;
import com.sun.source.tree.TryTree;
import com.sun.source.tree.TypeCastTree;
import com.sun.source.tree.UnaryTree;
import com.sun.source.tree.VariableTree;
import com.sun.source.tree.WhileLoopTree;
import com.sun.source.util.JavacTask;
import com.sun.source.util.TreePathScanner;
import com.sun.source.util.TreeScanner;
import com.sun.source.util.Trees;
import java.io.IOException;
import java.util.ArrayList;
import java.util.LinkedHashMap;
import java.util.LinkedHashSet;
import java.util.List;
import java.util.Map;
import java.util.Set;
import javax.lang.model.element.Element;
import javax.lang.model.element.ElementKind;
import javax.lang.model.element.Modifier;
import javax.tools.JavaCompiler;
import javax.tools.StandardJavaFileManager;
import javax.tools.ToolProvider;

/**
 * Those rules of LANGUAGE.md that show in the source as the compiler sees it: what rules 2, 6 and 10 leave out, the
 * library of rule 4, the ends of loops of rule 9, the sizes and the depth of calls of rule 11, and that objects are
 * made in constructors alone, so that what a run makes (rule 12) does not grow with its calls.
 * The path of the source is the first argument.
 */
public final class ShapeTest extends TreePathScanner<Void, Void> {
    private static final int MOST_LINES = 60;
    private static final int MOST_PARAMETERS = 7;
    private static final int MOST_CLASSES = 12;
    private static final int MOST_FIELDS = 20;
    private static final int MOST_DEPTH = 8;
    /** A part of what rule 4 allows: another function of its list is to be added here when the class needs it. */
    private static final Set<String> LIBRARY = Set.of("java.util.Arrays.fill", "java.lang.Math.min");

    private final CompilationUnitTree unit;
    private final Trees trees;
    /** By method or constructor: what it calls. A function of the library calls nothing that is counted. */
    private final Map<Element, Set<Element>> calls = new LinkedHashMap<>();
    private int classes;
    private int wrong;

    private ShapeTest(CompilationUnitTree unit, Trees trees) {
        this.unit = unit;
        this.trees = trees;
    }

    public static void main(String[] args) throws IOException {
        JavaCompiler compiler = ToolProvider.getSystemJavaCompiler();
        try (StandardJavaFileManager files = compiler.getStandardFileManager(null, null, null)) {
            JavacTask task = (JavacTask) compiler.getTask(null, files, null, List.of("--release", "17", "-proc:none"), null,
                files.getJavaFileObjects(args[0]));
            CompilationUnitTree unit = task.parse().iterator().next();
            task.analyze();
            ShapeTest test = new ShapeTest(unit, Trees.instance(task));
            test.scan(unit, null);
            test.end();
        }
    }

    private void end() {
        int deepest = 0;
        for (Element method : calls.keySet()) {
            deepest = Math.max(deepest, depth(method, new ArrayList<>()));
        }
        check(classes >= 1 && classes <= MOST_CLASSES, unit, classes + " classes");
        check(deepest >= 1 && deepest <= MOST_DEPTH, unit, "calls go " + deepest + " deep");
        System.out.println(classes + " classes, " + calls.size() + " methods and constructors, calls go " + deepest
            + " deep, " + wrong + " faults in the shape");
        if (wrong != 0) {
            System.exit(1);
        }
    }

    /** The calls that stand open at once from this method on, itself among them. */
    private int depth(Element method, List<Element> open) {
        if (open.contains(method)) {
            wrong++;
            System.out.println("recursion, which this test does not measure: " + open);
            return 0;
        }
        open.add(method);
        int most = 0;
        for (Element called : calls.getOrDefault(method, Set.of())) {
            most = Math.max(most, depth(called, open));
        }
        open.remove(method);
        return most + 1;
    }

    @Override
    public Void visitClass(ClassTree tree, Void none) {
        classes++;
        Tree around = getCurrentPath().getParentPath().getLeaf();
        boolean inside = around instanceof ClassTree;
        check(inside || around == unit, tree, "a class inside a method");
        check(!inside || tree.getModifiers().getFlags().contains(Modifier.STATIC), tree, "an inner class that is not static");
        long fields = 0;
        for (Tree member : tree.getMembers()) {
            boolean field = member instanceof VariableTree;
            boolean fixed = field && ((VariableTree) member).getModifiers().getFlags().contains(Modifier.STATIC);
            fields += field && !fixed ? 1 : 0;
            check(!fixed || ((VariableTree) member).getModifiers().getFlags().contains(Modifier.FINAL), member,
                "a static field that is not final");
            check(!(member instanceof BlockTree), member, "an initialiser block");
        }
        check(fields <= MOST_FIELDS, tree, fields + " fields");
        return super.visitClass(tree, none);
    }

    @Override
    public Void visitMethod(MethodTree tree, Void none) {
        calls.put(trees.getElement(getCurrentPath()), new LinkedHashSet<>());
        check(tree.getParameters().size() <= MOST_PARAMETERS, tree, tree.getParameters().size() + " parameters");
        long lines = unit.getLineMap().getLineNumber(trees.getSourcePositions().getEndPosition(unit, tree)) - line(tree) + 1;
        check(lines <= MOST_LINES, tree, lines + " lines");
        return super.visitMethod(tree, none);
    }

    @Override
    public Void visitMethodInvocation(MethodInvocationTree tree, Void none) {
        Element called = trees.getElement(getCurrentPath());
        String name = called.getEnclosingElement() + "." + called.getSimpleName();
        if (!name.equals("java.lang.Object.<init>")) {
            check(isOwn(called) || LIBRARY.contains(name), tree, "a call of the library: " + name);
            addCall(tree, called);
        }
        return super.visitMethodInvocation(tree, none);
    }

    @Override
    public Void visitNewClass(NewClassTree tree, Void none) {
        Element called = trees.getElement(getCurrentPath());
        check(isOwn(called), tree, "an object of the library");
        check(tree.getClassBody() == null, tree, "an anonymous class");
        check(isInConstructor(), tree, "an object made outside a constructor");
        addCall(tree, called);
        return super.visitNewClass(tree, none);
    }

    @Override
    public Void visitNewArray(NewArrayTree tree, Void none) {
        check(isInConstructor(), tree, "an array made outside a constructor");
        return super.visitNewArray(tree, none);
    }

    /** The counter is what the condition compares first; it steps towards the bound, and the body does not set it. */
    @Override
    public Void visitForLoop(ForLoopTree tree, Void none) {
        boolean up = tree.getCondition() != null && tree.getCondition().getKind() == Tree.Kind.LESS_THAN;
        boolean down = tree.getCondition() != null && tree.getCondition().getKind() == Tree.Kind.GREATER_THAN;
        check((up || down) && tree.getUpdate().size() == 1, tree, "a loop without a bound and a step");
        if ((up || down) && tree.getUpdate().size() == 1) {
            String counter = ((BinaryTree) tree.getCondition()).getLeftOperand().toString();
            String step = tree.getUpdate().get(0).getExpression().toString();
            check(step.equals(counter + (up ? "++" : "--")), tree, "a loop that steps by " + step);
            check(!sets(tree.getStatement(), counter), tree, "a loop whose body sets its counter");
        }
        return super.visitForLoop(tree, none);
    }

    private static boolean sets(Tree body, String variable) {
        Set<String> set = new LinkedHashSet<>();
        new TreeScanner<Void, Void>() {
            @Override
            public Void visitAssignment(AssignmentTree tree, Void none) {
                set.add(tree.getVariable().toString());
                return super.visitAssignment(tree, none);
            }

            @Override
            public Void visitCompoundAssignment(CompoundAssignmentTree tree, Void none) {
                set.add(tree.getVariable().toString());
                return super.visitCompoundAssignment(tree, none);
            }

            @Override
            public Void visitUnary(UnaryTree tree, Void none) {
                if (tree.getKind().name().endsWith("CREMENT")) {
                    set.add(tree.getExpression().toString());
                }
                return super.visitUnary(tree, none);
            }
        }.scan(body, null);
        return set.contains(variable);
    }

    @Override
    public Void visitWhileLoop(WhileLoopTree tree, Void none) {
        return refuse(tree, "a loop whose end this test does not see");
    }

    @Override
    public Void visitDoWhileLoop(DoWhileLoopTree tree, Void none) {
        return refuse(tree, "a loop whose end this test does not see");
    }

    @Override
    public Void visitLambdaExpression(LambdaExpressionTree tree, Void none) {
        return refuse(tree, "a lambda");
    }

    @Override
    public Void visitMemberReference(MemberReferenceTree tree, Void none) {
        return refuse(tree, "a method reference");
    }

    @Override
    public Void visitThrow(ThrowTree tree, Void none) {
        return refuse(tree, "throw");
    }

    @Override
    public Void visitTry(TryTree tree, Void none) {
        return refuse(tree, "try");
    }

    @Override
    public Void visitSynchronized(SynchronizedTree tree, Void none) {
        return refuse(tree, "synchronized");
    }

    @Override
    public Void visitAssert(AssertTree tree, Void none) {
        return refuse(tree, "assert");
    }

    @Override
    public Void visitTypeCast(TypeCastTree tree, Void none) {
        return refuse(tree, "a cast, whose test this test does not see");
    }

    /** A divisor would have to be looked at before it divides, which this test does not see. */
    @Override
    public Void visitBinary(BinaryTree tree, Void none) {
        check(tree.getKind() != Tree.Kind.DIVIDE && tree.getKind() != Tree.Kind.REMAINDER, tree, "a division");
        return super.visitBinary(tree, none);
    }

    private void addCall(Tree tree, Element called) {
        Element caller = caller();
        check(caller != null, tree, "a call outside a method");
        if (caller != null) {
            calls.get(caller).add(called);
        }
    }

    private Element caller() {
        for (Tree tree : getCurrentPath()) {
            if (tree instanceof MethodTree) {
                return trees.getElement(trees.getPath(unit, tree));
            }
        }
        return null;
    }

    private boolean isInConstructor() {
        return caller() != null && caller().getKind() == ElementKind.CONSTRUCTOR;
    }

    private static boolean isOwn(Element called) {
        return (called.getEnclosingElement() + ".").startsWith("LruKPageCache.");
    }

    private Void refuse(Tree tree, String what) {
        check(false, tree, what);
        return null;
    }

    private long line(Tree tree) {
        return unit.getLineMap().getLineNumber(trees.getSourcePositions().getStartPosition(unit, tree));
    }

    private void check(boolean holds, Tree tree, String what) {
        if (!holds) {
            wrong++;
            System.out.println("line " + line(tree) + ": " + what);
        }
    }
}
