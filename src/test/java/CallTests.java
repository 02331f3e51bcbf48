import com.sun.source.tree.ClassTree;
import com.sun.source.tree.CompilationUnitTree;
import com.sun.source.tree.MethodInvocationTree;
import com.sun.source.tree.MethodTree;
import com.sun.source.tree.NewClassTree;
import com.sun.source.tree.Tree;
import com.sun.source.util.JavacTask;
import com.sun.source.util.TreePathScanner;
import com.sun.source.util.Trees;
import java.io.IOException;
import java.nio.file.Path;
import java.util.ArrayList;
import java.util.List;
import java.util.Map;
import java.util.Set;
import java.util.TreeMap;
import java.util.TreeSet;
import javax.lang.model.element.Element;
import javax.lang.model.element.Modifier;
import javax.tools.JavaCompiler;
import javax.tools.StandardJavaFileManager;
import javax.tools.ToolProvider;

/** Who calls whom in the program, as the compiler reads it: how deep that goes, and what of the library is used. */
final class CallTests {
    private static final int DEEPEST = 8;
    private static final Set<String> LIBRARY = Set.of("java.lang.Math.max", "java.lang.Math.min",
        "java.lang.System.arraycopy", "java.lang.Object.<init>", "java.lang.IllegalArgumentException.<init>",
        "java.lang.IllegalStateException.<init>", "java.lang.IndexOutOfBoundsException.<init>");

    private final Map<String, Set<String>> called = new TreeMap<>();
    private final Set<String> face = new TreeSet<>();

    private CallTests() {
    }

    static void runAll(String source) {
        CallTests calls = new CallTests();
        Checks.run("the calls of the source", () -> calls.readFrom(source));
        Checks.run("calls go at most eight deep", calls::notTooDeep);
        Checks.run("no other library", calls::noOtherLibrary);
    }

    private void readFrom(String source) {
        JavaCompiler compiler = ToolProvider.getSystemJavaCompiler();
        try (StandardJavaFileManager files = compiler.getStandardFileManager(null, null, null)) {
            JavacTask task = (JavacTask) compiler.getTask(null, files, null, List.of("-proc:none"), null,
                files.getJavaFileObjects(Path.of(source)));
            Iterable<? extends CompilationUnitTree> units = task.parse();
            task.analyze();
            Reader reader = new Reader(Trees.instance(task));
            for (CompilationUnitTree unit : units) {
                reader.scan(unit, null);
            }
        } catch (IOException e) {
            Checks.fail("can't read " + source);
        }
        Checks.due("methods and the constructor of the face", face.size(), 29);
    }

    /** Notes each call under the method that it stands in; a field's first value belongs to the constructor. */
    private final class Reader extends TreePathScanner<Void, Void> {
        private final Trees trees;
        private String owner = "";
        private String caller = "";

        Reader(Trees trees) {
            this.trees = trees;
        }

        @Override
        public Void visitClass(ClassTree tree, Void unused) {
            String outerOwner = owner;
            String outerCaller = caller;
            owner = trees.getElement(getCurrentPath()).toString();
            caller = owner + ".<init>";
            super.visitClass(tree, null);
            owner = outerOwner;
            caller = outerCaller;
            return null;
        }

        @Override
        public Void visitMethod(MethodTree tree, Void unused) {
            String before = caller;
            caller = owner + "." + tree.getName();
            called.putIfAbsent(caller, new TreeSet<>());
            if (tree.getModifiers().getFlags().contains(Modifier.PUBLIC)) {
                face.add(caller);
            }
            super.visitMethod(tree, null);
            caller = before;
            return null;
        }

        @Override
        public Void visitMethodInvocation(MethodInvocationTree tree, Void unused) {
            note(tree);
            return super.visitMethodInvocation(tree, null);
        }

        @Override
        public Void visitNewClass(NewClassTree tree, Void unused) {
            note(tree);
            return super.visitNewClass(tree, null);
        }

        private void note(Tree tree) {
            Element callee = trees.getElement(getCurrentPath());
            String name = callee.getEnclosingElement() + "." + callee.getSimpleName();
            called.computeIfAbsent(caller, key -> new TreeSet<>()).add(name);
        }
    }

    private void notTooDeep() {
        for (String method : face) {
            List<String> chain = deepest(method, new ArrayList<>());
            if (chain.size() > DEEPEST) {
                Checks.fail("calls go " + chain.size() + " deep: " + chain);
            }
        }
    }

    /** The longest chain of calls from a method on; one that comes round again is cut where it is too deep. */
    private List<String> deepest(String method, List<String> above) {
        List<String> open = new ArrayList<>(above);
        open.add(method);
        List<String> longest = open;
        if (open.size() > DEEPEST) {
            return open;
        }
        for (String callee : called.getOrDefault(method, Set.of())) {
            List<String> chain = deepest(callee, open);
            if (chain.size() > longest.size()) {
                longest = chain;
            }
        }
        return longest;
    }

    private void noOtherLibrary() {
        for (Map.Entry<String, Set<String>> each : called.entrySet()) {
            for (String callee : each.getValue()) {
                if (!called.containsKey(callee) && !LIBRARY.contains(callee) && !callee.startsWith("PlacardWalkers")) {
                    Checks.fail(each.getKey() + " calls " + callee);
                }
            }
        }
    }
}
