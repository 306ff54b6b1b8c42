import com.sun.source.tree.IdentifierTree;
import com.sun.source.tree.MethodInvocationTree;
import com.sun.source.tree.MethodTree;
import com.sun.source.tree.NewClassTree;
import com.sun.source.tree.Tree;
import com.sun.source.util.JavacTask;
import com.sun.source.util.TreePath;
import com.sun.source.util.TreePathScanner;
import com.sun.source.util.Trees;
import java.nio.file.Path;
import java.util.ArrayList;
import java.util.LinkedHashMap;
import java.util.LinkedHashSet;
import java.util.List;
import java.util.Map;
import java.util.Set;
import javax.lang.model.element.Element;
import javax.lang.model.element.ElementKind;
import javax.lang.model.element.Modifier;
import javax.tools.JavaCompiler;
import javax.tools.StandardJavaFileManager;
import javax.tools.ToolProvider;

/**
 * Rules 8 and 11 of LANGUAGE.md: how deep calls go, each method of a recursion counted once. Rule 12: what a
 * constructor calls, and that it hands out nothing of the object that it makes.
 */
public final class CallsTest {
    private static final Check CHECK = new Check("CallsTest");
    private static final int DEEPEST = 8;

    private final Map<Element, Set<Element>> calls = new LinkedHashMap<>();
    private final Set<Element> guarded = new LinkedHashSet<>();

    public static void main(String[] args) throws Exception {
        CallsTest test = new CallsTest();
        test.read();
        test.measureDepths();
        test.findRecursions();
        CHECK.end();
    }

    private void read() throws Exception {
        JavaCompiler compiler = ToolProvider.getSystemJavaCompiler();
        try (StandardJavaFileManager files = compiler.getStandardFileManager(null, null, null)) {
            JavacTask task = (JavacTask) compiler.getTask(null, files, null, null, null,
                files.getJavaFileObjects(Path.of("src/main/java/Butterflyworks.java")));
            Trees trees = Trees.instance(task);
            List<Tree> units = new ArrayList<>();
            task.parse().forEach(units::add);
            task.analyze();
            for (Tree unit : units) {
                new Reader(trees).scan(trees.getPath((com.sun.source.tree.CompilationUnitTree) unit, unit), null);
            }
        }
        CHECK.isTrue("methods were read", calls.size() > 41);
    }

    private final class Reader extends TreePathScanner<Void, Void> {
        private final Trees trees;
        private Element inside;

        Reader(Trees trees) {
            this.trees = trees;
        }

        @Override
        public Void visitMethod(MethodTree tree, Void none) {
            inside = trees.getElement(getCurrentPath());
            calls.put(inside, new LinkedHashSet<>());
            for (Tree parameter : tree.getParameters()) {
                if (parameter.toString().equals("int level")) {
                    guarded.add(inside);
                }
            }
            super.visitMethod(tree, none);
            inside = null;
            return null;
        }

        @Override
        public Void visitMethodInvocation(MethodInvocationTree tree, Void none) {
            note(trees.getElement(getCurrentPath()), tree.getArguments());
            return super.visitMethodInvocation(tree, none);
        }

        @Override
        public Void visitNewClass(NewClassTree tree, Void none) {
            note(trees.getElement(getCurrentPath()), tree.getArguments());
            return super.visitNewClass(tree, none);
        }

        private void note(Element called, List<? extends Tree> told) {
            if (inside == null || called == null) {
                return;
            }
            calls.get(inside).add(called);
            if (inside.getKind() == ElementKind.CONSTRUCTOR) {
                boolean isConstructor = called.getKind() == ElementKind.CONSTRUCTOR;
                CHECK.isTrue("a constructor calls " + called + ", which is static or a constructor",
                    isConstructor || called.getModifiers().contains(Modifier.STATIC));
                for (Tree argument : told) {
                    new Handed(trees, called).scan(new TreePath(getCurrentPath(), argument), null);
                }
            }
        }
    }

    /** Looks through what a constructor hands to a call. */
    private static final class Handed extends TreePathScanner<Void, Void> {
        private final Trees trees;
        private final Element called;

        Handed(Trees trees, Element called) {
            this.trees = trees;
            this.called = called;
        }

        @Override
        public Void visitIdentifier(IdentifierTree tree, Void none) {
            Element named = trees.getElement(getCurrentPath());
            boolean isOfObject = named != null && !named.getModifiers().contains(Modifier.STATIC)
                && (named.getKind() == ElementKind.FIELD || tree.getName().contentEquals("this"));
            CHECK.isTrue("a constructor keeps " + tree + " from " + called, !isOfObject);
            return super.visitIdentifier(tree, none);
        }
    }

    private static boolean isOwn(Element element) {
        for (Element at = element; at != null; at = at.getEnclosingElement()) {
            if (at.getSimpleName().contentEquals("Butterflyworks")) {
                return true;
            }
        }
        return false;
    }

    private void measureDepths() {
        for (Element start : calls.keySet()) {
            List<Element> deepest = deepestFrom(start, new ArrayList<>());
            CHECK.isTrue("calls go " + deepest.size() + " deep: " + deepest, deepest.size() <= DEEPEST);
        }
    }

    private List<Element> deepestFrom(Element at, List<Element> above) {
        above.add(at);
        List<Element> deepest = new ArrayList<>(above);
        for (Element next : calls.getOrDefault(at, Set.of())) {
            if (isOwn(next) && !above.contains(next)) {
                List<Element> found = deepestFrom(next, above);
                if (found.size() > deepest.size()) {
                    deepest = found;
                }
            }
        }
        above.remove(above.size() - 1);
        return deepest;
    }

    /** Whoever comes back to itself carries its level as an argument. */
    private void findRecursions() {
        for (Element start : calls.keySet()) {
            if (reaches(start, start, new LinkedHashSet<>())) {
                CHECK.isTrue(start + " carries its level", guarded.contains(start));
                CHECK.isTrue(start + " is a method", start.getKind() == ElementKind.METHOD);
            }
        }
    }

    private boolean reaches(Element from, Element to, Set<Element> seen) {
        for (Element next : calls.getOrDefault(from, Set.of())) {
            if (next.equals(to) || seen.add(next) && reaches(next, to, seen)) {
                return true;
            }
        }
        return false;
    }
}
