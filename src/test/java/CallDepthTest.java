import com.sun.source.tree.ClassTree;
import com.sun.source.tree.CompilationUnitTree;
import com.sun.source.tree.MethodInvocationTree;
import com.sun.source.tree.MethodTree;
import com.sun.source.tree.NewClassTree;
import com.sun.source.util.JavacTask;
import com.sun.source.util.TreePathScanner;
import com.sun.source.util.Trees;
import java.io.IOException;
import java.nio.file.Path;
import java.util.ArrayList;
import java.util.LinkedHashMap;
import java.util.LinkedHashSet;
import java.util.List;
import java.util.Map;
import java.util.Set;
import javax.lang.model.element.Element;
import javax.lang.model.element.ElementKind;
import javax.lang.model.element.Modifier;
import javax.tools.JavaCompiler;
import javax.tools.JavaFileObject;
import javax.tools.StandardJavaFileManager;
import javax.tools.ToolProvider;

/**
 * Rules 8 and 11 of ../shared/LANGUAGE.md: how deep the calls go, from a method of the face on, as the compiler tells
 * who calls whom. The class has no recursion, so that a chain that comes back to a method is wrong.
 */
public final class CallDepthTest {
    private static final Path SOURCE = Path.of("src/main/java/Traversehall.java");
    private static final int MAX_DEPTH = 8;

    private static final Map<Element, Set<Element>> CALLED = new LinkedHashMap<>();
    private static int wrong = 0;
    private static int deepest = 0;

    public static void main(String[] args) throws IOException {
        readCalls();
        for (Element method : CALLED.keySet()) {
            follow(method, new ArrayList<>());
        }
        lookForUncalled();
        System.out.println(CALLED.size() + " methods, " + deepest + " deep, " + wrong + " wrong");
        if (wrong != 0 || CALLED.size() < 100) {
            System.exit(1);
        }
    }

    private static void readCalls() throws IOException {
        JavaCompiler compiler = ToolProvider.getSystemJavaCompiler();
        try (StandardJavaFileManager files = compiler.getStandardFileManager(null, null, null)) {
            Iterable<? extends JavaFileObject> sources = files.getJavaFileObjects(SOURCE);
            JavacTask task = (JavacTask) compiler.getTask(null, files, null, null, null, sources);
            List<CompilationUnitTree> units = new ArrayList<>();
            task.parse().forEach(units::add);
            task.analyze();
            Calls calls = new Calls(Trees.instance(task));
            units.forEach(unit -> calls.scan(unit, null));
        }
    }

    /** Notes what each method calls; what stands in no method belongs to the class around it. */
    private static final class Calls extends TreePathScanner<Void, Void> {
        private final Trees trees;
        private Element inside;

        Calls(Trees trees) {
            this.trees = trees;
        }

        @Override
        public Void visitClass(ClassTree tree, Void none) {
            return visitInside(() -> super.visitClass(tree, none));
        }

        @Override
        public Void visitMethod(MethodTree tree, Void none) {
            return visitInside(() -> super.visitMethod(tree, none));
        }

        private Void visitInside(Runnable visit) {
            Element around = inside;
            inside = trees.getElement(getCurrentPath());
            CALLED.putIfAbsent(inside, new LinkedHashSet<>());
            visit.run();
            inside = around;
            return null;
        }

        @Override
        public Void visitMethodInvocation(MethodInvocationTree tree, Void none) {
            CALLED.get(inside).add(trees.getElement(getCurrentPath()));
            return super.visitMethodInvocation(tree, none);
        }

        @Override
        public Void visitNewClass(NewClassTree tree, Void none) {
            CALLED.get(inside).add(trees.getElement(getCurrentPath()));
            return super.visitNewClass(tree, none);
        }
    }

    /** Follows each chain from a method on; the library's own methods end one, and are no part of it. */
    private static void follow(Element method, List<Element> chain) {
        boolean again = chain.contains(method);
        chain.add(method);
        deepest = Math.max(deepest, chain.size());
        if (again || chain.size() > MAX_DEPTH) {
            fail((again ? "comes back: " : "too deep: ") + chain);
        } else {
            for (Element called : CALLED.get(method)) {
                if (CALLED.containsKey(called)) {
                    follow(called, chain);
                }
            }
        }
        chain.remove(chain.size() - 1);
    }

    /** A method that is not of the face and that nothing calls is left over. */
    private static void lookForUncalled() {
        Set<Element> called = new LinkedHashSet<>();
        CALLED.values().forEach(called::addAll);
        for (Element method : CALLED.keySet()) {
            boolean isFace = method.getModifiers().contains(Modifier.PUBLIC);
            boolean isMethod = method.getKind() == ElementKind.METHOD;
            if (isMethod && !isFace && !called.contains(method)) {
                fail("never called: " + method);
            }
        }
    }

    private static void fail(String what) {
        wrong++;
        System.out.println(what);
    }
}
