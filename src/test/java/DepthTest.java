import com.sun.source.tree.ClassTree;
import com.sun.source.tree.CompilationUnitTree;
import com.sun.source.tree.MethodInvocationTree;
import com.sun.source.tree.MethodTree;
import com.sun.source.tree.NewClassTree;
import com.sun.source.util.JavacTask;
import com.sun.source.util.TreePath;
import com.sun.source.util.TreePathScanner;
import com.sun.source.util.Trees;
import java.io.IOException;
import java.nio.file.Path;
import java.util.HashMap;
import java.util.HashSet;
import java.util.List;
import java.util.Map;
import java.util.Set;
import java.util.TreeMap;
import java.util.TreeSet;
import javax.lang.model.element.Element;
import javax.tools.JavaCompiler;
import javax.tools.StandardJavaFileManager;
import javax.tools.ToolProvider;

/** Follows the calls in the text of the class: no method comes back to itself, and calls go at most eight deep. */
public final class DepthTest {
    private static final Path SOURCE = Path.of("src/main/java/LaneKeep.java");
    private static final int MOST_DEPTH = 8;
    private static final int LEAST_METHODS = 100;

    private final Map<String, Set<String>> callsOf = new TreeMap<>();
    private final Map<String, Integer> depths = new HashMap<>();
    private final Set<String> open = new HashSet<>();
    private int wrong;

    public static void main(String[] args) throws IOException {
        DepthTest test = new DepthTest();
        test.read();
        int deepest = 0;
        for (String method : test.callsOf.keySet()) {
            int depth = test.depthOf(method);
            deepest = Math.max(deepest, depth);
            if (depth > MOST_DEPTH) {
                test.wrong++;
                System.out.println("calls go " + depth + " deep from " + method);
            }
        }
        System.out.println(test.callsOf.size() + " methods, calls go " + deepest + " deep, " + test.wrong + " wrong");
        if (test.wrong != 0 || test.callsOf.size() < LEAST_METHODS) {
            System.exit(1);
        }
    }

    private void read() throws IOException {
        JavaCompiler compiler = ToolProvider.getSystemJavaCompiler();
        try (StandardJavaFileManager files = compiler.getStandardFileManager(null, null, null)) {
            JavacTask task = (JavacTask) compiler.getTask(null, files, null, List.of("-proc:none"), null,
                    files.getJavaFileObjects(SOURCE));
            Iterable<? extends CompilationUnitTree> units = task.parse();
            task.analyze();
            Calls calls = new Calls(Trees.instance(task));
            for (CompilationUnitTree unit : units) {
                calls.scan(unit, null);
            }
        }
    }

    private static String nameOf(Element method) {
        return method.getEnclosingElement() + "." + method;
    }

    /** Who calls whom. What makes the fields of a class is no method's own, and goes no deeper than a constructor. */
    private final class Calls extends TreePathScanner<Void, Void> {
        private final Trees trees;
        private String caller = "";

        Calls(Trees trees) {
            this.trees = trees;
        }

        @Override
        public Void visitClass(ClassTree node, Void none) {
            String before = caller;
            caller = "the fields of " + node.getSimpleName();
            callsOf.put(caller, new TreeSet<>());
            super.visitClass(node, none);
            caller = before;
            return null;
        }

        @Override
        public Void visitMethod(MethodTree node, Void none) {
            String before = caller;
            caller = nameOf(trees.getElement(getCurrentPath()));
            callsOf.put(caller, new TreeSet<>());
            super.visitMethod(node, none);
            caller = before;
            return null;
        }

        @Override
        public Void visitMethodInvocation(MethodInvocationTree node, Void none) {
            callsOf.get(caller).add(nameOf(trees.getElement(new TreePath(getCurrentPath(), node.getMethodSelect()))));
            return super.visitMethodInvocation(node, none);
        }

        @Override
        public Void visitNewClass(NewClassTree node, Void none) {
            callsOf.get(caller).add(nameOf(trees.getElement(getCurrentPath())));
            return super.visitNewClass(node, none);
        }
    }

    /** How many calls stand open at most, this one with them; one of the library counts as one. */
    private int depthOf(String method) {
        if (depths.containsKey(method)) {
            return depths.get(method);
        }
        if (!open.add(method)) {
            wrong++;
            System.out.println(method + " comes back to itself");
            return 0;
        }
        int below = 0;
        for (String called : callsOf.getOrDefault(method, Set.of())) {
            below = Math.max(below, depthOf(called));
        }
        open.remove(method);
        depths.put(method, below + 1);
        return below + 1;
    }
}
