import com.sun.source.tree.ClassTree;
import com.sun.source.tree.CompilationUnitTree;
import com.sun.source.tree.MethodInvocationTree;
import com.sun.source.tree.MethodTree;
import com.sun.source.tree.NewArrayTree;
import com.sun.source.tree.NewClassTree;
import com.sun.source.util.JavacTask;
import com.sun.source.util.TreePathScanner;
import com.sun.source.util.Trees;
import java.io.IOException;
import java.nio.file.Path;
import java.util.HashMap;
import java.util.LinkedHashMap;
import java.util.LinkedHashSet;
import java.util.List;
import java.util.Map;
import java.util.Set;
import javax.lang.model.element.ElementKind;
import javax.lang.model.element.ExecutableElement;
import javax.lang.model.element.TypeElement;
import javax.lang.model.util.Elements;
import javax.tools.JavaCompiler;
import javax.tools.StandardJavaFileManager;
import javax.tools.ToolProvider;

/** Rules 4, 8, 11 and 12 of LANGUAGE.md, as the compiler sees who calls whom and who makes what. */
public final class CallsTest {
    private static final Path PROGRAM = Path.of("src/main/java/TuneSchool.java");
    private static final int DEEPEST = 8;
    private static final Set<String> LIBRARY = Set.of("java.lang.Math.abs", "java.lang.Math.max", "java.lang.Math.min",
            "java.lang.System.arraycopy", "java.util.Arrays.fill", "java.lang.Object.<init>");
    /** All other calls use again what the constructor made, or a long run would not fit into its room. */
    private static final Set<String> MAKERS = Set.of("rule", "newRule", "school", "<init>", "(a field)");
    private static final Due due = new Due();

    private final Map<ExecutableElement, Set<ExecutableElement>> calls = new LinkedHashMap<>();
    private final Map<ExecutableElement, Integer> depths = new HashMap<>();

    public static void main(String[] args) throws IOException {
        CallsTest test = new CallsTest();
        test.look();
        for (ExecutableElement method : List.copyOf(test.calls.keySet())) {
            test.library(method);
            tell(test.depth(method, 1) <= DEEPEST, method + " goes deeper than " + DEEPEST);
        }
        due.end();
    }

    private static void tell(boolean is, String what) {
        if (!is) {
            System.out.println(what);
        }
        due.is(1, is ? 1 : 0);
    }

    private void look() throws IOException {
        JavaCompiler compiler = ToolProvider.getSystemJavaCompiler();
        try (StandardJavaFileManager files = compiler.getStandardFileManager(null, null, null)) {
            JavacTask task = (JavacTask) compiler.getTask(null, files, null, List.of("-proc:none"), null,
                    files.getJavaFileObjects(PROGRAM));
            Iterable<? extends CompilationUnitTree> units = task.parse();
            task.analyze();
            Looker looker = new Looker(Trees.instance(task));
            looker.scan(units, null);
            addOverriding(looker.open, task.getElements());
        }
    }

    /** A call that is not of super may come to each body that overrides the one it names. */
    private void addOverriding(Map<ExecutableElement, Set<ExecutableElement>> open, Elements elements) {
        for (ExecutableElement from : open.keySet()) {
            for (ExecutableElement named : open.get(from)) {
                for (ExecutableElement body : calls.keySet()) {
                    if (elements.overrides(body, named, (TypeElement) body.getEnclosingElement())) {
                        calls.get(from).add(body);
                    }
                }
            }
        }
    }

    private void library(ExecutableElement method) {
        for (ExecutableElement called : calls.get(method)) {
            String name = called.getEnclosingElement() + "." + called.getSimpleName();
            tell(calls.containsKey(called) || LIBRARY.contains(name), method + " calls " + name);
        }
    }

    /** How many calls stand open at once, the library's among them; what calls itself is cut as too deep. */
    private int depth(ExecutableElement method, int level) {
        if (level > DEEPEST || depths.containsKey(method)) {
            return depths.getOrDefault(method, 1);
        }
        int deepest = 0;
        for (ExecutableElement called : calls.getOrDefault(method, Set.of())) {
            deepest = Math.max(deepest, depth(called, level + 1));
        }
        if (level == 1) {
            depths.put(method, deepest + 1);
        }
        return deepest + 1;
    }

    private final class Looker extends TreePathScanner<Void, ExecutableElement> {
        final Map<ExecutableElement, Set<ExecutableElement>> open = new LinkedHashMap<>();
        private final Trees trees;

        Looker(Trees trees) {
            this.trees = trees;
        }

        private ExecutableElement here() {
            return (ExecutableElement) trees.getElement(getCurrentPath());
        }

        @Override
        public Void visitClass(ClassTree tree, ExecutableElement in) {
            return super.visitClass(tree, null);
        }

        @Override
        public Void visitMethod(MethodTree tree, ExecutableElement in) {
            calls.put(here(), new LinkedHashSet<>());
            return super.visitMethod(tree, here());
        }

        @Override
        public Void visitMethodInvocation(MethodInvocationTree tree, ExecutableElement in) {
            boolean isOfSuper = tree.getMethodSelect().toString().startsWith("super");
            boolean isInMethod = in != null && in.getKind() == ElementKind.METHOD;
            tell(isInMethod || isOfSuper, "a constructor or a field calls " + tree);
            if (in != null) {
                calls.get(in).add(here());
            }
            if (in != null && !isOfSuper) {
                open.computeIfAbsent(in, key -> new LinkedHashSet<>()).add(here());
            }
            return super.visitMethodInvocation(tree, in);
        }

        @Override
        public Void visitNewClass(NewClassTree tree, ExecutableElement in) {
            make(tree.toString(), in);
            if (in != null) {
                calls.get(in).add(here());
            }
            return super.visitNewClass(tree, in);
        }

        @Override
        public Void visitNewArray(NewArrayTree tree, ExecutableElement in) {
            make(tree.toString(), in);
            return super.visitNewArray(tree, in);
        }

        private void make(String what, ExecutableElement in) {
            String maker = in == null ? "(a field)" : in.getSimpleName().toString();
            tell(MAKERS.contains(maker), maker + " makes " + what);
        }
    }
}
