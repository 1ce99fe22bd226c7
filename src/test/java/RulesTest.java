import com.sun.source.tree.CatchTree;
import com.sun.source.tree.ClassTree;
import com.sun.source.tree.CompilationUnitTree;
import com.sun.source.tree.DoWhileLoopTree;
import com.sun.source.tree.ForLoopTree;
import com.sun.source.tree.LambdaExpressionTree;
import com.sun.source.tree.MemberReferenceTree;
import com.sun.source.tree.MethodInvocationTree;
import com.sun.source.tree.MethodTree;
import com.sun.source.tree.NewClassTree;
import com.sun.source.tree.ThrowTree;
import com.sun.source.tree.TryTree;
import com.sun.source.tree.WhileLoopTree;
import com.sun.source.util.JavacTask;
import com.sun.source.util.TreePathScanner;
import com.sun.source.util.Trees;
import java.nio.file.Path;
import java.util.HashMap;
import java.util.HashSet;
import java.util.LinkedHashMap;
import java.util.LinkedHashSet;
import java.util.Map;
import java.util.Set;
import javax.lang.model.element.Element;
import javax.lang.model.element.ElementKind;
import javax.tools.JavaCompiler;
import javax.tools.ToolProvider;

/** The rules of LANGUAGE.md that can be read off the class once the compiler has told which call goes where. */
public final class RulesTest {
    private static final int DEEPEST = 8;
    private static final int LONGEST = 60;
    private static final Set<String> LIBRARY = Set.of("java.lang.Math.floorMod", "java.lang.Math.min",
            "java.util.Arrays.fill", "java.util.Arrays.copyOf");
    private static final Set<String> EXCEPTIONS = Set.of("IllegalStateException", "IllegalArgumentException",
            "IndexOutOfBoundsException", "ArithmeticException", "NoSuchElementException");

    /** The methods of the class, each with those that it calls, the library's included. */
    private static final Map<Element, Set<Element>> CALLS = new LinkedHashMap<>();
    private static final Map<Element, Integer> DEPTHS = new HashMap<>();
    private static final Set<Element> OPEN = new HashSet<>();

    public static void main(String[] args) throws Exception {
        JavaCompiler compiler = ToolProvider.getSystemJavaCompiler();
        try (var files = compiler.getStandardFileManager(null, null, null)) {
            var sources = files.getJavaFileObjects(Path.of("src/main/java/Drumline.java"));
            JavacTask task = (JavacTask) compiler.getTask(null, files, null, null, null, sources);
            Iterable<? extends CompilationUnitTree> units = task.parse();
            task.analyze();
            Trees trees = Trees.instance(task);
            for (CompilationUnitTree unit : units) {
                new Reading(trees, unit).scan(unit, null);
            }
        }
        Check.same("methods were read", CALLS.size() > 100, true);
        for (Element method : CALLS.keySet()) {
            int depth = depth(method);
            Check.same("11 calls of " + method + " go " + depth + " deep", depth <= DEEPEST, true);
        }
        Check.close();
    }

    private static boolean isOwn(Element element) {
        return CALLS.containsKey(element);
    }

    /** How many calls stand open at once at most, the method itself included. */
    private static int depth(Element method) {
        Integer known = DEPTHS.get(method);
        if (known != null) {
            return known;
        }
        Check.same("8 no recursion in " + method, OPEN.add(method), true);
        int deepest = 0;
        for (Element called : CALLS.get(method)) {
            boolean isLeaf = !isOwn(called) || OPEN.contains(called);
            deepest = Math.max(deepest, isLeaf ? 1 : depth(called));
        }
        OPEN.remove(method);
        DEPTHS.put(method, deepest + 1);
        return deepest + 1;
    }

    /** Goes through the file once. */
    private static final class Reading extends TreePathScanner<Void, Void> {
        private final Trees trees;
        private final CompilationUnitTree unit;
        /** The method that is read, or null between methods, where fields are made. */
        private Element method;
        private int classes;

        Reading(Trees trees, CompilationUnitTree unit) {
            this.trees = trees;
            this.unit = unit;
        }

        private Element element() {
            return trees.getElement(getCurrentPath());
        }

        private long line(long position) {
            return unit.getLineMap().getLineNumber(position);
        }

        @Override
        public Void visitClass(ClassTree tree, Void nothing) {
            classes++;
            Check.same("11 classes", classes <= 12, true);
            Check.same("6 no exception of its own", tree.getExtendsClause() == null, true);
            return super.visitClass(tree, nothing);
        }

        @Override
        public Void visitMethod(MethodTree tree, Void nothing) {
            method = element();
            CALLS.put(method, new LinkedHashSet<>());
            long first = line(trees.getSourcePositions().getStartPosition(unit, tree));
            long last = line(trees.getSourcePositions().getEndPosition(unit, tree));
            Check.same("11 lines of " + method, last - first < LONGEST, true);
            Check.same("11 parameters of " + method, tree.getParameters().size() <= 7, true);
            super.visitMethod(tree, nothing);
            method = null;
            return null;
        }

        private void calls(Element called) {
            if (method != null) {
                CALLS.get(method).add(called);
            }
        }

        @Override
        public Void visitMethodInvocation(MethodInvocationTree tree, Void nothing) {
            Element called = element();
            String owner = called.getEnclosingElement().toString();
            // A constructor calls that of Object without a word.
            if (called.getKind() != ElementKind.CONSTRUCTOR) {
                String name = owner + "." + called.getSimpleName();
                Check.same("4 " + name, owner.startsWith("Drumline") || LIBRARY.contains(name), true);
                calls(called);
            }
            return super.visitMethodInvocation(tree, nothing);
        }

        @Override
        public Void visitNewClass(NewClassTree tree, Void nothing) {
            Element called = element();
            String owner = called.getEnclosingElement().toString();
            boolean isAtTheStart = method == null || method.getKind() == ElementKind.CONSTRUCTOR;
            boolean isThrown = getCurrentPath().getParentPath().getLeaf() instanceof ThrowTree;
            if (owner.startsWith("Drumline")) {
                calls(called);
                Check.same("12 " + owner + " is made by constructors alone", isAtTheStart, true);
            } else {
                String name = owner.substring(owner.lastIndexOf('.') + 1);
                Check.same("6 " + name, EXCEPTIONS.contains(name) && isThrown && !isAtTheStart, true);
            }
            return super.visitNewClass(tree, nothing);
        }

        @Override
        public Void visitForLoop(ForLoopTree tree, Void nothing) {
            Check.same("9 a loop has a condition", tree.getCondition() != null, true);
            return super.visitForLoop(tree, nothing);
        }

        @Override
        public Void visitWhileLoop(WhileLoopTree tree, Void nothing) {
            Check.same("9 a loop counts", tree.toString(), "for");
            return super.visitWhileLoop(tree, nothing);
        }

        @Override
        public Void visitDoWhileLoop(DoWhileLoopTree tree, Void nothing) {
            Check.same("9 a loop counts", tree.toString(), "for");
            return super.visitDoWhileLoop(tree, nothing);
        }

        @Override
        public Void visitTry(TryTree tree, Void nothing) {
            Check.same("6 nothing is tried", tree.toString(), "");
            return super.visitTry(tree, nothing);
        }

        @Override
        public Void visitCatch(CatchTree tree, Void nothing) {
            Check.same("6 nothing is caught", tree.toString(), "");
            return super.visitCatch(tree, nothing);
        }

        @Override
        public Void visitLambdaExpression(LambdaExpressionTree tree, Void nothing) {
            Check.same("2 no lambda", tree.toString(), "");
            return super.visitLambdaExpression(tree, nothing);
        }

        @Override
        public Void visitMemberReference(MemberReferenceTree tree, Void nothing) {
            Check.same("2 no method reference", tree.toString(), "");
            return super.visitMemberReference(tree, nothing);
        }
    }
}
