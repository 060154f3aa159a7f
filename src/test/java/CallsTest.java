import com.sun.source.tree.ClassTree;
import com.sun.source.tree.CompilationUnitTree;
import com.sun.source.tree.MethodInvocationTree;
import com.sun.source.tree.MethodTree;
import com.sun.source.tree.NewArrayTree;
import com.sun.source.tree.NewClassTree;
import com.sun.source.util.JavacTask;
import com.sun.source.util.TreePathScanner;
import com.sun.source.util.Trees;
import java.io.File;
import java.util.ArrayList;
import java.util.LinkedHashMap;
import java.util.LinkedHashSet;
import java.util.List;
import java.util.Map;
import java.util.Set;
import java.util.TreeSet;
import javax.lang.model.element.Element;
import javax.lang.model.element.Modifier;
import javax.tools.StandardJavaFileManager;
import javax.tools.ToolProvider;

/** Who calls whom in the program, for the rules 4, 8, 11 and 12 of shared/LANGUAGE.md. */
public final class CallsTest {
    private static final int DEEPEST = 8;
    private static final Set<String> LIBRARY = Set.of("String.length()", "String.charAt(int)", "String.indexOf(int)", "Math.max(int,int)",
        "Math.min(int,int)", "Arrays.fill(int[],int)", "System.arraycopy(java.lang.Object,int,java.lang.Object,int,int)");

    /** Constructors and what makes fields stand at their class. */
    private final Map<Element, Set<Element>> calls = new LinkedHashMap<>();
    private final Set<Element> makers = new LinkedHashSet<>();
    private List<Element> longest = new ArrayList<>();

    public static void main(String[] args) throws Exception {
        new CallsTest().look();
        Check.done();
    }

    private void look() throws Exception {
        var compiler = ToolProvider.getSystemJavaCompiler();
        try (StandardJavaFileManager files = compiler.getStandardFileManager(null, null, null)) {
            var source = files.getJavaFileObjects(new File("src/main/java/StackWords.java"));
            JavacTask task = (JavacTask) compiler.getTask(null, files, null, List.of("-proc:none"), null, source);
            Iterable<? extends CompilationUnitTree> units = task.parse();
            task.analyze();
            for (CompilationUnitTree unit : units) {
                new Collector(Trees.instance(task)).scan(unit, null);
            }
        }
        Check.due("methods were found", calls.size() > 100, true);
        libraryAlone();
        eightDeep();
        recursionIsPrivate();
        Check.due("methods that make objects: " + makers, makers.isEmpty(), true);
    }

    private void libraryAlone() {
        for (Set<Element> called : calls.values()) {
            for (Element e : called) {
                if (!calls.containsKey(e)) {
                    String told = e.getEnclosingElement().getSimpleName() + "." + e;
                    Check.due("the library's " + told, LIBRARY.contains(told), true);
                }
            }
        }
    }

    /** Calls of the library are counted, too; one that is recursion is not counted again. */
    private void eightDeep() {
        for (Element e : calls.keySet()) {
            if (e.getModifiers().contains(Modifier.PUBLIC)) {
                longest = new ArrayList<>();
                goDown(new ArrayList<>(List.of(e)));
                Check.due(longest.size() + " calls deep: " + longest, longest.size() <= DEEPEST, true);
            }
        }
    }

    private void goDown(List<Element> way) {
        if (way.size() > longest.size()) {
            longest = new ArrayList<>(way);
        }
        for (Element next : calls.getOrDefault(way.get(way.size() - 1), Set.of())) {
            if (!way.contains(next)) {
                way.add(next);
                goDown(way);
                way.remove(way.size() - 1);
            }
        }
    }

    private void recursionIsPrivate() {
        Set<String> found = new TreeSet<>();
        for (Element e : calls.keySet()) {
            Set<Element> reached = new LinkedHashSet<>();
            reach(e, reached);
            if (reached.contains(e)) {
                found.add(e.getSimpleName().toString());
                Check.due("private, as it calls itself: " + e, e.getModifiers().contains(Modifier.PRIVATE), true);
            }
        }
        Check.due("recursion where it is known: " + found, found.equals(Set.of("readLevel", "readNot", "readUnit", "goOver", "doItem")), true);
    }

    private void reach(Element from, Set<Element> reached) {
        for (Element next : calls.getOrDefault(from, Set.of())) {
            if (reached.add(next)) {
                reach(next, reached);
            }
        }
    }

    private final class Collector extends TreePathScanner<Void, Void> {
        private final Trees trees;
        private Element within;
        private boolean making;

        Collector(Trees trees) {
            this.trees = trees;
        }

        @Override
        public Void visitClass(ClassTree tree, Void none) {
            Element outer = within;
            within = trees.getElement(getCurrentPath());
            making = true;
            super.visitClass(tree, none);
            within = outer;
            return null;
        }

        @Override
        public Void visitMethod(MethodTree tree, Void none) {
            Element outer = within;
            making = tree.getReturnType() == null;
            within = making ? outer : trees.getElement(getCurrentPath());
            calls.putIfAbsent(within, new LinkedHashSet<>());
            super.visitMethod(tree, none);
            within = outer;
            making = true;
            return null;
        }

        @Override
        public Void visitMethodInvocation(MethodInvocationTree tree, Void none) {
            Element called = trees.getElement(getCurrentPath());
            if (!called.getSimpleName().contentEquals("<init>")) {
                calls.computeIfAbsent(within, e -> new LinkedHashSet<>()).add(called);
            }
            return super.visitMethodInvocation(tree, none);
        }

        @Override
        public Void visitNewClass(NewClassTree tree, Void none) {
            note();
            return super.visitNewClass(tree, none);
        }

        @Override
        public Void visitNewArray(NewArrayTree tree, Void none) {
            note();
            return super.visitNewArray(tree, none);
        }

        private void note() {
            if (!making) {
                makers.add(within);
            }
        }
    }
}
