import com.sun.source.tree.ClassTree;
import com.sun.source.tree.CompilationUnitTree;
import com.sun.source.tree.DoWhileLoopTree;
import com.sun.source.tree.ForLoopTree;
import com.sun.source.tree.LambdaExpressionTree;
import com.sun.source.tree.MethodInvocationTree;
import com.sun.source.tree.MethodTree;
import com.sun.source.tree.NewArrayTree;
import com.sun.source.tree.NewClassTree;
import com.sun.source.tree.Tree;
import com.sun.source.tree.WhileLoopTree;
import com.sun.source.util.JavacTask;
import com.sun.source.util.TreePathScanner;
import com.sun.source.util.Trees;
import java.io.IOException;
import java.nio.file.Path;
import java.util.HashMap;
import java.util.HashSet;
import java.util.List;
import java.util.Map;
import java.util.Set;
import java.util.TreeSet;
import javax.lang.model.element.Element;
import javax.lang.model.element.ElementKind;
import javax.tools.JavaCompiler;
import javax.tools.StandardJavaFileManager;
import javax.tools.ToolProvider;

/** Those rules of LANGUAGE.md that the compiler's tree of the file can tell. */
public final class TreeTest {
    private static final Due DUE = new Due("TreeTest");
    private static final Path FILE = Path.of("src/main/java/MarriedMap.java");
    private static final int NO_PROMISE = 0;
    private static final int DEEPEST = 8;
    private static final int MOST_PARAMETERS = 7;
    private static final Set<String> LIBRARY = Set.of("java.lang.Math.abs", "java.lang.Math.max", "java.lang.Math.min",
            "java.lang.System.arraycopy", "java.util.Arrays.fill");
    /** The two searches, whose depth is an argument that is looked at. */
    private static final Set<String> RECURSIVE = Set.of("MarriedMap.Courtship.court", "MarriedMap.Turns.takeTurn");

    private final Map<Element, Set<Element>> calls = new HashMap<>();
    private final Set<String> called = new TreeSet<>();
    private final Set<String> recursive = new TreeSet<>();

    public static void main(String[] args) throws IOException {
        new TreeTest().look();
        DUE.end();
    }

    private void look() throws IOException {
        JavaCompiler compiler = ToolProvider.getSystemJavaCompiler();
        try (StandardJavaFileManager files = compiler.getStandardFileManager(null, null, null)) {
            JavacTask task = (JavacTask) compiler.getTask(null, files, null, List.of("-proc:none"), null,
                    files.getJavaFileObjects(FILE));
            Iterable<? extends CompilationUnitTree> units = task.parse();
            task.analyze();
            for (CompilationUnitTree unit : units) {
                new Look(Trees.instance(task)).scan(unit, null);
            }
        }
        DUE.is(NO_PROMISE, "methods that were looked at are many", calls.size() > 100 ? 1 : 0, 1);
        for (Element method : List.copyOf(calls.keySet())) {
            int deep = depthOf(method, new HashSet<>());
            DUE.is(NO_PROMISE, "rule 11: " + name(method) + " goes " + deep + " deep", deep <= DEEPEST ? 1 : 0, 1);
        }
        called.removeAll(LIBRARY);
        DUE.is(NO_PROMISE, "rule 4: of the library are called " + called, called.size(), 0);
        DUE.is(NO_PROMISE, "rule 8: those that call themselves are " + recursive, recursive.equals(RECURSIVE) ? 1 : 0, 1);
    }

    /** How many calls stand open at most, this one and one of the library too; a method that calls itself counts once. */
    private int depthOf(Element method, Set<Element> open) {
        int deepest = 0;
        open.add(method);
        for (Element next : calls.getOrDefault(method, Set.of())) {
            if (next.equals(method)) {
                recursive.add(name(method));
            } else if (open.contains(next)) {
                DUE.is(NO_PROMISE, "rule 8: methods that call one another: " + name(method) + ", " + name(next), 0, 1);
            } else {
                deepest = Math.max(deepest, depthOf(next, open));
            }
        }
        open.remove(method);
        return deepest + 1;
    }

    private static String name(Element method) {
        return method.getEnclosingElement() + "." + method.getSimpleName();
    }

    private final class Look extends TreePathScanner<Void, Void> {
        private final Trees trees;
        private Element inside = null;

        Look(Trees trees) {
            this.trees = trees;
        }

        @Override
        public Void visitMethod(MethodTree method, Void nothing) {
            inside = trees.getElement(getCurrentPath());
            calls.put(inside, new HashSet<>());
            DUE.is(NO_PROMISE, "rule 11: parameters of " + name(inside),
                    method.getParameters().size() <= MOST_PARAMETERS ? 1 : 0, 1);
            super.visitMethod(method, nothing);
            inside = null;
            return null;
        }

        @Override
        public Void visitMethodInvocation(MethodInvocationTree call, Void nothing) {
            Element method = trees.getElement(getCurrentPath());
            if (inside != null && method.getKind() == ElementKind.METHOD) {
                calls.get(inside).add(method);
            }
            if (method.getKind() == ElementKind.METHOD && !name(method).startsWith("MarriedMap.")) {
                called.add(name(method));
            }
            return super.visitMethodInvocation(call, nothing);
        }

        @Override
        public Void visitNewClass(NewClassTree made, Void nothing) {
            madeByConstructors("an object");
            DUE.is(NO_PROMISE, "rule 2: no class without a name", made.getClassBody() == null ? 1 : 0, 1);
            return super.visitNewClass(made, nothing);
        }

        @Override
        public Void visitNewArray(NewArrayTree made, Void nothing) {
            madeByConstructors("an array");
            return super.visitNewArray(made, nothing);
        }

        /** What a run makes is counted, so calls make nothing. */
        private void madeByConstructors(String what) {
            boolean isSo = inside == null || inside.getKind() == ElementKind.CONSTRUCTOR;
            DUE.is(NO_PROMISE, "rule 12: " + what + " is made in " + inside, isSo ? 1 : 0, 1);
        }

        @Override
        public Void visitLambdaExpression(LambdaExpressionTree lambda, Void nothing) {
            DUE.is(NO_PROMISE, "rule 2: a lambda in " + inside, 0, 1);
            return super.visitLambdaExpression(lambda, nothing);
        }

        @Override
        public Void visitForLoop(ForLoopTree loop, Void nothing) {
            boolean isCounted = loop.getCondition() != null && loop.getUpdate().size() == 1;
            DUE.is(NO_PROMISE, "rule 9: a loop with a bound in " + inside, isCounted ? 1 : 0, 1);
            return super.visitForLoop(loop, nothing);
        }

        @Override
        public Void visitWhileLoop(WhileLoopTree loop, Void nothing) {
            DUE.is(NO_PROMISE, "rule 9: a loop without a counter in " + inside, 0, 1);
            return super.visitWhileLoop(loop, nothing);
        }

        @Override
        public Void visitDoWhileLoop(DoWhileLoopTree loop, Void nothing) {
            DUE.is(NO_PROMISE, "rule 9: a loop without a counter in " + inside, 0, 1);
            return super.visitDoWhileLoop(loop, nothing);
        }

        @Override
        public Void visitClass(ClassTree made, Void nothing) {
            boolean isOwn = getCurrentPath().getParentPath().getLeaf().getKind() == Tree.Kind.COMPILATION_UNIT
                    || getCurrentPath().getParentPath().getLeaf() instanceof ClassTree;
            DUE.is(NO_PROMISE, "rule 2: " + made.getSimpleName() + " stands in no method", isOwn ? 1 : 0, 1);
            return super.visitClass(made, nothing);
        }
    }
}
