import com.sun.source.tree.BinaryTree;
import com.sun.source.tree.ClassTree;
import com.sun.source.tree.CompilationUnitTree;
import com.sun.source.tree.CompoundAssignmentTree;
import com.sun.source.tree.ForLoopTree;
import com.sun.source.tree.IdentifierTree;
import com.sun.source.tree.LiteralTree;
import com.sun.source.tree.MemberSelectTree;
import com.sun.source.tree.MethodInvocationTree;
import com.sun.source.tree.MethodTree;
import com.sun.source.tree.NewArrayTree;
import com.sun.source.tree.NewClassTree;
import com.sun.source.tree.Tree;
import com.sun.source.tree.VariableTree;
import com.sun.source.util.JavacTask;
import com.sun.source.util.TreePath;
import com.sun.source.util.TreePathScanner;
import com.sun.source.util.Trees;
import java.nio.file.Path;
import java.util.ArrayList;
import java.util.EnumSet;
import java.util.HashMap;
import java.util.HashSet;
import java.util.List;
import java.util.Map;
import java.util.Set;
import javax.lang.model.element.Element;
import javax.lang.model.element.ElementKind;
import javax.lang.model.element.ExecutableElement;
import javax.lang.model.element.TypeElement;
import javax.lang.model.type.TypeMirror;
import javax.tools.JavaCompiler;
import javax.tools.StandardJavaFileManager;
import javax.tools.ToolProvider;

// What of ../shared/LANGUAGE.md can be seen from the class as the compiler reads it.
public final class LanguageTree {

    private static final Path SOURCE = Path.of("src/main/java/WordsKnown.java");

    private static final int MOST_DEPTH = 8;

    private static final Set<String> LIBRARY = Set.of("java.util.Arrays.fill(int[],int)", "java.lang.Math.min(int,int)",
        "java.lang.Math.max(int,int)", "java.lang.Math.max(long,long)", "java.lang.Math.abs(int)",
        "java.lang.System.arraycopy(java.lang.Object,int,java.lang.Object,int,int)", "java.lang.Object.Object()");

    private static final Set<String> TYPES = Set.of("int", "long", "byte", "short", "boolean", "void",
        "int[]", "long[]", "boolean[]", "int[][]");

    // Not one of these kinds may stand in the class.
    private static final Set<Tree.Kind> REFUSED = EnumSet.of(Tree.Kind.THROW, Tree.Kind.TRY, Tree.Kind.CATCH,
        Tree.Kind.SYNCHRONIZED, Tree.Kind.ASSERT, Tree.Kind.LAMBDA_EXPRESSION, Tree.Kind.MEMBER_REFERENCE, Tree.Kind.WHILE_LOOP,
        Tree.Kind.DO_WHILE_LOOP, Tree.Kind.INSTANCE_OF, Tree.Kind.STRING_LITERAL, Tree.Kind.DOUBLE_LITERAL, Tree.Kind.FLOAT_LITERAL,
        Tree.Kind.NULL_LITERAL, Tree.Kind.ANNOTATION, Tree.Kind.SWITCH_EXPRESSION, Tree.Kind.YIELD);

    // Divisors that are no number written out: each stands behind a test of it, the last in a loop from 0 on.
    private static final Set<String> DIVISORS = Set.of("rest", "common", "(k + 1)");

    private static int seen = 0;
    private static int wrong = 0;

    private static void hold(int rule, boolean holds, String what) {
        seen++;
        if (holds) return;
        wrong++;
        System.out.println("rule " + rule + ": " + what);
    }

    /** Looks at each part of the class, and keeps which method calls which. */
    private static final class Look extends TreePathScanner<Void, Void> {
        private final Trees trees;
        private final Map<Element, Set<Element>> called = new HashMap<>();
        private Element method = null;
        private int loops = 0;

        Look(Trees trees) {
            this.trees = trees;
        }

        private Element here() {
            return trees.getElement(getCurrentPath());
        }

        @Override public Void scan(Tree tree, Void none) {
            if (tree != null) hold(6, !REFUSED.contains(tree.getKind()), "the class has " + tree.getKind() + ": " + tree);
            return super.scan(tree, none);
        }

        @Override public Void visitClass(ClassTree tree, Void none) {
            TypeElement type = (TypeElement) here();
            hold(2, type.getNestingKind().isNested() == !type.getSimpleName().contentEquals("WordsKnown"), tree + " stands elsewhere");
            hold(2, !type.getNestingKind().name().matches("LOCAL|ANONYMOUS"), type + " is a class of its own kind");
            for (Element e : type.getEnclosedElements()) {
                if (e.getKind().isField()) checkType(e.asType(), e.toString());
                hold(5, e.getKind() != ElementKind.STATIC_INIT && e.getKind() != ElementKind.INSTANCE_INIT, type + " has a block");
            }
            return super.visitClass(tree, none);
        }

        @Override public Void visitMethod(MethodTree tree, Void none) {
            method = here();
            ExecutableElement act = (ExecutableElement) method;
            checkType(act.getReturnType(), act.toString());
            for (Element parameter : act.getParameters()) checkType(parameter.asType(), act.toString());
            called.putIfAbsent(method, new HashSet<>());
            super.visitMethod(tree, none);
            method = null;
            return none;
        }

        private void checkType(TypeMirror type, String where) {
            boolean own = type.toString().startsWith("WordsKnown.");
            hold(3, own || TYPES.contains(type.toString()), where + " is of " + type);
        }

        @Override public Void visitVariable(VariableTree tree, Void none) {
            checkType(here().asType(), tree.toString());
            return super.visitVariable(tree, none);
        }

        @Override public Void visitMethodInvocation(MethodInvocationTree tree, Void none) {
            // the call of Object's constructor that the compiler adds has no place
            Element act = trees.getElement(new TreePath(getCurrentPath(), tree.getMethodSelect()));
            keepCall((ExecutableElement) act);
            return super.visitMethodInvocation(tree, none);
        }

        private void keepCall(ExecutableElement act) {
            String owner = ((TypeElement) act.getEnclosingElement()).getQualifiedName().toString();
            if (owner.startsWith("WordsKnown")) {
                hold(12, method != null, act + " is called outside a method");
                if (method != null) called.get(method).add(act);
                return;
            }
            String sign = act.toString().startsWith("Object()") ? "Object()" : act.toString();
            hold(4, LIBRARY.contains(owner + "." + sign), "the class calls " + owner + "." + sign);
        }

        @Override public Void visitNewClass(NewClassTree tree, Void none) {
            checkMaking(tree);
            ExecutableElement made = (ExecutableElement) here();
            hold(4, made.getEnclosingElement().toString().startsWith("WordsKnown."), "the class makes " + tree);
            return super.visitNewClass(tree, none);
        }

        @Override public Void visitNewArray(NewArrayTree tree, Void none) {
            checkMaking(tree);
            return super.visitNewArray(tree, none);
        }

        /** All calls live in one room: only constructors and fields make objects and rows. */
        private void checkMaking(Tree tree) {
            boolean once = method == null || method.getKind() == ElementKind.CONSTRUCTOR;
            hold(12, once && loops == 0, tree + " is made again and again");
        }

        @Override public Void visitForLoop(ForLoopTree tree, Void none) {
            String condition = tree.getCondition() == null ? "" : tree.getCondition().toString();
            hold(9, condition.contains("<") || condition.contains(">"), "a loop without a bound: " + condition);
            loops++;
            super.visitForLoop(tree, none);
            loops--;
            return none;
        }

        @Override public Void visitBinary(BinaryTree tree, Void none) {
            boolean divides = tree.getKind() == Tree.Kind.DIVIDE || tree.getKind() == Tree.Kind.REMAINDER;
            if (divides) checkDivisor(tree.getRightOperand());
            return super.visitBinary(tree, none);
        }

        @Override public Void visitCompoundAssignment(CompoundAssignmentTree tree, Void none) {
            hold(7, !tree.getKind().name().matches("DIVIDE.*|REMAINDER.*"), "a division that is not looked at: " + tree);
            return super.visitCompoundAssignment(tree, none);
        }

        private void checkDivisor(Tree divisor) {
            boolean number = divisor instanceof LiteralTree && !divisor.toString().matches("0L?");
            hold(7, number || DIVISORS.contains(divisor.toString()), "a divisor that is not looked at: " + divisor);
        }

        @Override public Void visitMemberSelect(MemberSelectTree tree, Void none) {
            checkField(tree);
            return super.visitMemberSelect(tree, none);
        }

        @Override public Void visitIdentifier(IdentifierTree tree, Void none) {
            checkField(tree);
            return super.visitIdentifier(tree, none);
        }

        /** No field of the library's own. */
        private void checkField(Tree tree) {
            Element e = here();
            if (e == null || !e.getKind().isField()) return;
            Element owner = e.getEnclosingElement();
            boolean own = owner == null || owner.toString().startsWith("WordsKnown") || tree.toString().endsWith(".length")
                || tree.toString().matches("this|super");
            hold(4, own, "the class has " + tree);
        }

        /** How deep the calls from a method on go; a method that comes again is recursion. */
        int depth(Element from, List<Element> open) {
            if (open.contains(from)) {
                hold(8, false, from + " calls itself, by way of " + open);
                return 0;
            }
            open.add(from);
            int deepest = 0;
            for (Element to : called.getOrDefault(from, Set.of())) deepest = Math.max(deepest, depth(to, open));
            open.remove(open.size() - 1);
            return deepest + 1;
        }

        void checkDepths() {
            int deepest = 0;
            for (Element from : called.keySet()) {
                int depth = depth(from, new ArrayList<>());
                hold(11, depth <= MOST_DEPTH, from + " goes " + depth + " calls deep");
                deepest = Math.max(deepest, depth);
            }
            hold(11, deepest > 2, "no calls were seen");
            System.out.println("the deepest call goes " + deepest + " deep");
        }
    }

    public static void main(String[] args) throws Exception {
        JavaCompiler compiler = ToolProvider.getSystemJavaCompiler();
        StandardJavaFileManager files = compiler.getStandardFileManager(null, null, null);
        JavacTask task = (JavacTask) compiler.getTask(null, files, null, List.of("-proc:none"), null, files.getJavaFileObjects(SOURCE));
        Look look = new Look(Trees.instance(task));
        List<CompilationUnitTree> units = new ArrayList<>();
        for (CompilationUnitTree unit : task.parse()) units.add(unit);
        task.analyze();
        for (CompilationUnitTree unit : units) look.scan(new TreePath(unit), null);
        hold(1, units.size() == 1 && units.get(0).getPackageName() == null, "the file is no one file without a package");
        look.checkDepths();
        System.out.println(seen + " looks, " + wrong + " wrong");
        if (wrong != 0 || seen < 1000) System.exit(1);
    }
}
