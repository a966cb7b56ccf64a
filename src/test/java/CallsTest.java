import com.sun.source.tree.CompilationUnitTree;
import com.sun.source.tree.MethodInvocationTree;
import com.sun.source.tree.MethodTree;
import com.sun.source.tree.NewArrayTree;
import com.sun.source.tree.NewClassTree;
import com.sun.source.tree.Tree;
import com.sun.source.tree.VariableTree;
import com.sun.source.util.JavacTask;
import com.sun.source.util.TreePathScanner;
import com.sun.source.util.Trees;
import java.nio.file.Path;
import java.util.ArrayDeque;
import java.util.ArrayList;
import java.util.Arrays;
import java.util.Deque;
import java.util.List;
import java.util.Map;
import java.util.Set;
import java.util.TreeMap;
import java.util.TreeSet;
import javax.lang.model.element.Element;
import javax.lang.model.element.ElementKind;
import javax.lang.model.element.TypeElement;
import javax.tools.JavaCompiler;
import javax.tools.StandardJavaFileManager;
import javax.tools.ToolProvider;

/** What of ../shared/LANGUAGE.md can be seen in the calls of the class (4, 8, 11), and where it makes objects (12). */
public final class CallsTest {
    private static final Set<String> LIBRARY = new TreeSet<>(Arrays.asList("Math.max", "Math.min", "System.arraycopy", "Arrays.fill"));
    private static final Set<String> RECURSIONS = new TreeSet<>(Arrays.asList("RindDates.leastByAunt", "RindDates.mostByNephew"));
    private static final int DEEPEST = 8;

    private static final Map<String, Set<String>> calls = new TreeMap<>();
    private static final Set<String> library = new TreeSet<>();
    private static final List<String> madeByCalls = new ArrayList<>();

    public static void main(String[] args) throws Exception {
        JavaCompiler compiler = ToolProvider.getSystemJavaCompiler();
        StandardJavaFileManager files = compiler.getStandardFileManager(null, null, null);
        JavacTask task = (JavacTask) compiler.getTask(null, files, null, List.of("-proc:none"), null,
            files.getJavaFileObjects(Path.of("src/main/java/RindDates.java")));
        Iterable<? extends CompilationUnitTree> units = task.parse();
        task.analyze();
        for (CompilationUnitTree unit : units) {
            new Reader(Trees.instance(task)).scan(unit, null);
        }
        Due.is("methods with calls were seen", calls.size() >= 41 ? 1 : 0, 1);
        for (String member : library) {
            Due.is("the library's " + member + " is one that the rules list", LIBRARY.contains(member) ? 1 : 0, 1);
        }
        for (String made : madeByCalls) {
            Due.is("made outside a constructor: " + made, 1, 0);
        }
        for (String method : calls.keySet()) {
            int deep = depth(method, new ArrayDeque<>());
            Due.is("calls from " + method + " go " + deep + " deep, which", deep <= DEEPEST ? 1 : 0, 1);
            boolean again = reaches(method, method, new TreeSet<>());
            Due.is(method + " calls itself", again ? 1 : 0, RECURSIONS.contains(method) ? 1 : 0);
        }
        Due.close("CallsTest");
    }

    private static int depth(String method, Deque<String> open) {
        if (open.contains(method)) {
            return 0;
        }
        open.push(method);
        int deepest = 0;
        for (String called : calls.getOrDefault(method, Set.of())) {
            deepest = Math.max(deepest, depth(called, open));
        }
        open.pop();
        return deepest + 1;
    }

    private static boolean reaches(String from, String method, Set<String> seen) {
        for (String called : calls.getOrDefault(from, Set.of())) {
            if (called.equals(method) || seen.add(called) && reaches(called, method, seen)) {
                return true;
            }
        }
        return false;
    }

    private static final class Reader extends TreePathScanner<Void, Void> {
        private final Trees trees;
        private String method = "";
        private boolean makes;

        Reader(Trees trees) {
            this.trees = trees;
        }

        @Override
        public Void visitMethod(MethodTree tree, Void none) {
            Element element = trees.getElement(getCurrentPath());
            method = nameOf(element);
            makes = element.getKind() == ElementKind.CONSTRUCTOR;
            calls.putIfAbsent(method, new TreeSet<>());
            super.visitMethod(tree, none);
            method = "";
            return null;
        }

        @Override
        public Void visitVariable(VariableTree tree, Void none) {
            boolean field = trees.getElement(getCurrentPath()).getKind() == ElementKind.FIELD;
            String before = method;
            boolean made = makes;
            if (field) {
                method = nameOf(trees.getElement(getCurrentPath().getParentPath())) + ".<init>";
                makes = true;
                calls.putIfAbsent(method, new TreeSet<>());
            }
            super.visitVariable(tree, none);
            method = before;
            makes = made;
            return null;
        }

        @Override
        public Void visitMethodInvocation(MethodInvocationTree tree, Void none) {
            note(trees.getElement(getCurrentPath()));
            return super.visitMethodInvocation(tree, none);
        }

        @Override
        public Void visitNewClass(NewClassTree tree, Void none) {
            note(trees.getElement(getCurrentPath()));
            noteMade(tree);
            return super.visitNewClass(tree, none);
        }

        @Override
        public Void visitNewArray(NewArrayTree tree, Void none) {
            noteMade(tree);
            return super.visitNewArray(tree, none);
        }

        private void noteMade(Tree tree) {
            if (!makes) {
                madeByCalls.add(tree + " in " + method);
            }
        }

        private void note(Element called) {
            TypeElement owner = (TypeElement) called.getEnclosingElement();
            boolean own = owner.getQualifiedName().toString().startsWith("RindDates");
            if (own) {
                calls.get(method).add(nameOf(called));
            } else if (!owner.getQualifiedName().contentEquals("java.lang.Object")) {
                library.add(nameOf(called));
            }
        }

        private static String nameOf(Element element) {
            boolean isType = element.getKind().isClass() || element.getKind().isInterface();
            return isType ? element.getSimpleName().toString() : nameOf(element.getEnclosingElement()) + "." + element.getSimpleName();
        }
    }
}
