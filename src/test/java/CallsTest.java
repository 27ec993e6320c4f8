import com.sun.source.tree.CompilationUnitTree;
import com.sun.source.tree.MethodInvocationTree;
import com.sun.source.tree.MethodTree;
import com.sun.source.tree.NewClassTree;
import com.sun.source.util.JavacTask;
import com.sun.source.util.TreePathScanner;
import com.sun.source.util.Trees;
import java.nio.file.Path;
import java.util.LinkedHashMap;
import java.util.LinkedHashSet;
import java.util.List;
import java.util.Map;
import java.util.Set;
import javax.lang.model.element.Element;
import javax.lang.model.element.ElementKind;
import javax.lang.model.element.Modifier;
import javax.tools.JavaCompiler;
import javax.tools.StandardJavaFileManager;
import javax.tools.ToolProvider;

/** Who calls whom in the class, as the compiler sees it: rules 4, 8, 11 and 12 of LANGUAGE.md. */
public final class CallsTest {
    private static final Set<String> LIBRARY = Set.of("java.lang.Object.Object()", "java.lang.Math.min(int,int)",
        "java.lang.Math.max(int,int)", "java.lang.System.arraycopy(java.lang.Object,int,java.lang.Object,int,int)");
    private static final Set<String> RECURSIVE = Set.of("fitting", "given", "asked");
    private static final int DEEPEST = 8, FEWEST = 60;

    private final Map<Element, Set<Element>> calls = new LinkedHashMap<>();

    public static void main(String[] args) throws Exception {
        CallsTest test = new CallsTest();
        test.read(Path.of("src/main/java/ElbowQueue.java"));
        Check.isTrue("the face and what is behind it is seen", test.calls.size() > FEWEST);
        test.library();
        test.constructors();
        test.depths();
        Check.end();
    }

    private void read(Path source) throws Exception {
        JavaCompiler compiler = ToolProvider.getSystemJavaCompiler();
        StandardJavaFileManager files = compiler.getStandardFileManager(null, null, null);
        JavacTask task = (JavacTask) compiler.getTask(null, files, null, List.of("-proc:none"), null,
            files.getJavaFileObjects(source));
        Iterable<? extends CompilationUnitTree> units = task.parse();
        task.analyze();
        Trees trees = Trees.instance(task);
        for (CompilationUnitTree unit : units) {
            new Finder(trees).scan(unit, null);
        }
    }

    private final class Finder extends TreePathScanner<Void, Void> {
        private final Trees trees;
        private Set<Element> here;

        Finder(Trees trees) {
            this.trees = trees;
        }

        @Override
        public Void visitMethod(MethodTree method, Void unused) {
            here = new LinkedHashSet<>();
            calls.put(trees.getElement(getCurrentPath()), here);
            super.visitMethod(method, unused);
            here = null;
            return null;
        }

        @Override
        public Void visitMethodInvocation(MethodInvocationTree call, Void unused) {
            called();
            return super.visitMethodInvocation(call, unused);
        }

        @Override
        public Void visitNewClass(NewClassTree made, Void unused) {
            called();
            return super.visitNewClass(made, unused);
        }

        private void called() {
            Check.isTrue("nothing is called outside a method", here != null);
            if (here != null) {
                here.add(trees.getElement(getCurrentPath()));
            }
        }
    }

    private static String fullName(Element method) {
        return method.getEnclosingElement() + "." + (method.getKind() == ElementKind.CONSTRUCTOR
            ? method.getEnclosingElement().getSimpleName() + "()" : method.toString());
    }

    private void library() {
        for (Map.Entry<Element, Set<Element>> method : calls.entrySet()) {
            for (Element called : method.getValue()) {
                boolean known = calls.containsKey(called) || LIBRARY.contains(fullName(called));
                Check.isTrue(method.getKey() + " calls " + fullName(called), known);
            }
        }
    }

    private void constructors() {
        for (Map.Entry<Element, Set<Element>> method : calls.entrySet()) {
            if (method.getKey().getKind() != ElementKind.CONSTRUCTOR) {
                continue;
            }
            for (Element called : method.getValue()) {
                Check.isTrue(fullName(method.getKey()) + " calls no method but " + called,
                    called.getKind() == ElementKind.CONSTRUCTOR);
            }
        }
    }

    private void depths() {
        for (Element method : calls.keySet()) {
            if (method.getModifiers().contains(Modifier.PUBLIC)) {
                int depth = depth(method, new LinkedHashSet<>());
                Check.isTrue(method + " goes " + depth + " deep", depth <= DEEPEST);
            }
        }
    }

    private int depth(Element method, Set<Element> open) {
        if (!calls.containsKey(method)) {
            return 0;
        }
        if (!open.add(method)) {
            Check.isTrue(method + " calls itself, with a guard", RECURSIVE.contains(method.getSimpleName().toString()));
            return 0;
        }
        int deepest = 0;
        for (Element called : calls.get(method)) {
            deepest = Math.max(deepest, depth(called, open));
        }
        open.remove(method);
        return deepest + 1;
    }
}
