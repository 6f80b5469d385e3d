import com.sun.source.tree.AssignmentTree;
import com.sun.source.tree.BinaryTree;
import com.sun.source.tree.ClassTree;
import com.sun.source.tree.CompilationUnitTree;
import com.sun.source.tree.CompoundAssignmentTree;
import com.sun.source.tree.DoWhileLoopTree;
import com.sun.source.tree.ExpressionTree;
import com.sun.source.tree.ForLoopTree;
import com.sun.source.tree.IdentifierTree;
import com.sun.source.tree.MethodInvocationTree;
import com.sun.source.tree.MethodTree;
import com.sun.source.tree.NewArrayTree;
import com.sun.source.tree.NewClassTree;
import com.sun.source.tree.Tree;
import com.sun.source.tree.TypeCastTree;
import com.sun.source.tree.UnaryTree;
import com.sun.source.tree.WhileLoopTree;
import com.sun.source.util.JavacTask;
import com.sun.source.util.TreePathScanner;
import com.sun.source.util.TreeScanner;
import com.sun.source.util.Trees;
import java.io.IOException;
import java.nio.file.Path;
import java.util.HashMap;
import java.util.HashSet;
import java.util.LinkedHashSet;
import java.util.List;
import java.util.Map;
import java.util.Set;
import java.util.TreeSet;
import javax.lang.model.element.Element;
import javax.lang.model.element.ElementKind;
import javax.tools.JavaCompiler;
import javax.tools.StandardJavaFileManager;
import javax.tools.ToolProvider;

/**
 * Rules 4, 8, 9, 11 and 12 of LANGUAGE.md, on the class as the compiler reads it: which library
 * calls there are, how deep calls go, that none comes back to itself, that each loop has a bound,
 * and that objects are made by constructors alone.
 */
public final class CallTreeTest extends TreePathScanner<Void, Void> {
    private static final int DEEPEST = 8;
    private static final Set<String> LIBRARY = Set.of("java.lang.Math.max", "java.lang.Math.min",
        "java.lang.Long.compare");
    private static final Checks CHECKS = new Checks();

    private final Trees trees;
    private final Map<String, Set<String>> calls = new HashMap<>();
    private final Set<String> library = new TreeSet<>();
    private String caller = "";
    private boolean inConstructor = false;
    private boolean inMethod = false;
    private int loops = 0;
    private int divisions = 0;

    private CallTreeTest(Trees trees) {
        this.trees = trees;
    }

    public static void main(String[] args) throws IOException {
        Path root = Path.of(args.length > 0 ? args[0] : ".");
        JavaCompiler compiler = ToolProvider.getSystemJavaCompiler();
        try (StandardJavaFileManager files = compiler.getStandardFileManager(null, null, null)) {
            JavacTask task = (JavacTask) compiler.getTask(null, files, null, List.of("-proc:none", "--release", "17"), null,
                files.getJavaFileObjects(root.resolve("src/main/java/BallotHouse.java")));
            Iterable<? extends CompilationUnitTree> units = task.parse();
            task.analyze();
            CallTreeTest test = new CallTreeTest(Trees.instance(task));
            test.scan(units, null);
            test.end();
        }
        CHECKS.end();
    }

    private void end() {
        CHECKS.holds("the library is used by " + library, LIBRARY.containsAll(library));
        int deepest = 0;
        for (String method : calls.keySet()) {
            deepest = Math.max(deepest, depth(method, new LinkedHashSet<>()));
        }
        System.out.println(calls.size() + " methods, " + loops + " loops, calls " + deepest + " deep");
        CHECKS.holds("calls go " + deepest + " deep", deepest > 1 && deepest <= DEEPEST);
        CHECKS.holds("loops are found", loops > 40);
        CHECKS.holds("divisions are found", divisions > 3);
    }

    private int depth(String method, LinkedHashSet<String> open) {
        if (!open.add(method)) {
            CHECKS.holds(method + " comes back to itself over " + open, false);
            return 0;
        }
        int deepest = 0;
        for (String called : calls.getOrDefault(method, Set.of())) {
            deepest = Math.max(deepest, depth(called, open));
        }
        open.remove(method);
        return 1 + deepest;
    }

    private static String name(Element method) {
        return method.getEnclosingElement() + "." + method.getSimpleName();
    }

    @Override
    public Void visitMethod(MethodTree method, Void nothing) {
        Element element = trees.getElement(getCurrentPath());
        caller = name(element);
        calls.putIfAbsent(caller, new HashSet<>());
        inConstructor = element.getKind() == ElementKind.CONSTRUCTOR;
        inMethod = true;
        super.visitMethod(method, nothing);
        inMethod = false;
        return null;
    }

    @Override
    public Void visitMethodInvocation(MethodInvocationTree call, Void nothing) {
        Element called = trees.getElement(getCurrentPath());
        String name = name(called);
        if (name.startsWith("BallotHouse")) {
            calls.get(caller).add(name);
        } else if (called.getKind() != ElementKind.CONSTRUCTOR) {
            library.add(name);
        }
        return super.visitMethodInvocation(call, nothing);
    }

    @Override
    public Void visitNewClass(NewClassTree made, Void nothing) {
        CHECKS.holds(made + " is made in " + caller, inConstructor || !inMethod);
        CHECKS.holds(made + " has a body", made.getClassBody() == null);
        return super.visitNewClass(made, nothing);
    }

    @Override
    public Void visitNewArray(NewArrayTree made, Void nothing) {
        CHECKS.holds(made + " is made in " + caller, inConstructor || !inMethod);
        return super.visitNewArray(made, nothing);
    }

    @Override
    public Void visitTypeCast(TypeCastTree cast, Void nothing) {
        CHECKS.holds(cast + " is a cast", false);
        return super.visitTypeCast(cast, nothing);
    }

    @Override
    public Void visitClass(ClassTree one, Void nothing) {
        CHECKS.holds(one.getSimpleName() + " is made inside a method", !inMethod);
        return super.visitClass(one, nothing);
    }

    /** A for loop counts by one, and compares what it counts. */
    @Override
    public Void visitForLoop(ForLoopTree loop, Void nothing) {
        loops++;
        String update = loop.getUpdate().toString();
        CHECKS.holds(loop + " has no counter", update.matches("[a-z]+(\\+\\+|--);"));
        String counter = update.replaceAll("[^a-z]", "");
        CHECKS.holds(loop + " has no bound", isCompared(loop.getCondition(), counter));
        CHECKS.holds(loop + " changes its counter", !new Changes(counter).isIn(loop.getStatement()));
        return super.visitForLoop(loop, nothing);
    }

    /** A while loop compares a counter of its own, and counts it up in its body. */
    @Override
    public Void visitWhileLoop(WhileLoopTree loop, Void nothing) {
        loops++;
        CHECKS.holds(loop + " has no bound", isCompared(loop.getCondition(), "length"));
        CHECKS.holds(loop + " does not count", new Changes("length").isIn(loop.getStatement()));
        return super.visitWhileLoop(loop, nothing);
    }

    @Override
    public Void visitDoWhileLoop(DoWhileLoopTree loop, Void nothing) {
        CHECKS.holds(loop + " is a loop without a look ahead", false);
        return super.visitDoWhileLoop(loop, nothing);
    }

    /** Each divisor is a number, or is looked at in the lines of the method that divides. */
    @Override
    public Void visitBinary(BinaryTree binary, Void nothing) {
        if (binary.getKind() == Tree.Kind.DIVIDE || binary.getKind() == Tree.Kind.REMAINDER) {
            divisions++;
            String divisor = binary.getRightOperand().toString().replaceAll("[()]| \\+ 1", "");
            String method = enclosingMethod().toString();
            boolean lookedAt = method.contains(divisor + " < 1 ?") || method.contains(divisor + " != 0;");
            CHECKS.holds(binary + " divides by what nobody looked at", lookedAt);
        }
        return super.visitBinary(binary, nothing);
    }

    private Tree enclosingMethod() {
        for (Tree tree : getCurrentPath()) {
            if (tree instanceof MethodTree) {
                return tree;
            }
        }
        return getCurrentPath().getCompilationUnit();
    }

    private static boolean isCompared(ExpressionTree condition, String counter) {
        return condition != null && condition.toString().matches("\\(?" + counter + " (<|<=|>=) .*");
    }

    /** Looks for lines that change a variable. */
    private static final class Changes extends TreeScanner<Boolean, Void> {
        private final String variable;

        Changes(String variable) {
            this.variable = variable;
        }

        boolean isIn(Tree body) {
            return Boolean.TRUE.equals(scan(body, null));
        }

        @Override
        public Boolean visitUnary(UnaryTree unary, Void nothing) {
            boolean counts = unary.getKind() == Tree.Kind.POSTFIX_INCREMENT
                || unary.getKind() == Tree.Kind.POSTFIX_DECREMENT;
            return counts && isVariable(unary.getExpression()) || Boolean.TRUE.equals(super.visitUnary(unary, nothing));
        }

        @Override
        public Boolean visitAssignment(AssignmentTree set, Void nothing) {
            return isVariable(set.getVariable()) || Boolean.TRUE.equals(super.visitAssignment(set, nothing));
        }

        @Override
        public Boolean visitCompoundAssignment(CompoundAssignmentTree set, Void nothing) {
            return isVariable(set.getVariable()) || Boolean.TRUE.equals(super.visitCompoundAssignment(set, nothing));
        }

        @Override
        public Boolean reduce(Boolean one, Boolean other) {
            return Boolean.TRUE.equals(one) || Boolean.TRUE.equals(other);
        }

        private boolean isVariable(ExpressionTree tree) {
            return tree instanceof IdentifierTree && tree.toString().equals(variable);
        }
    }
}
