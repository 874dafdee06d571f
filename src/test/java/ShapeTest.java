import com.sun.source.tree.ClassTree;
import com.sun.source.tree.CompilationUnitTree;
import com.sun.source.tree.MethodInvocationTree;
import com.sun.source.tree.MethodTree;
import com.sun.source.tree.NewClassTree;
import com.sun.source.tree.Tree;
import com.sun.source.tree.VariableTree;
import com.sun.source.util.JavacTask;
import com.sun.source.util.TreePath;
import com.sun.source.util.TreePathScanner;
import com.sun.source.util.Trees;
import java.io.IOException;
import java.nio.file.Path;
import java.util.ArrayList;
import java.util.HashMap;
import java.util.HashSet;
import java.util.List;
import java.util.Map;
import java.util.Set;
import java.util.TreeSet;
import javax.lang.model.element.Element;
import javax.lang.model.element.Modifier;
import javax.tools.JavaCompiler;
import javax.tools.StandardJavaFileManager;
import javax.tools.ToolProvider;

/** The rules 4, 8 and 11 of LANGUAGE.md, by the program's tree as javac reads it: who calls whom, how deep. */
public final class ShapeTest {
    private static final int DEEPEST = 8, MOST_PARAMETERS = 7, MOST_CLASSES = 12, MOST_FIELDS = 20, MOST_LINES = 60;

    /** For each method (and constructor) of the program: those that it calls. */
    private static final Map<Element, Set<Element>> CALLS = new HashMap<>();
    private static final Set<Element> RECURSIVE = new HashSet<>();
    private static final Set<String> LIBRARY = Set.of(
        "java.lang.Object.Object()", "java.lang.Integer.bitCount(int)", "java.lang.Long.bitCount(long)",
        "java.lang.Math.max(int,int)", "java.lang.Math.min(int,int)",
        "java.lang.System.arraycopy(java.lang.Object,int,java.lang.Object,int,int)");
    private static int classes = 0;

    public static void main(String[] args) throws IOException {
        JavaCompiler compiler = ToolProvider.getSystemJavaCompiler();
        try (StandardJavaFileManager files = compiler.getStandardFileManager(null, null, null)) {
            JavacTask task = (JavacTask) compiler.getTask(null, files, null, List.of("-proc:none"), null,
                files.getJavaFileObjects(Path.of("src/main/java/BearWitness.java")));
            Iterable<? extends CompilationUnitTree> units = task.parse();
            task.analyze();
            for (CompilationUnitTree unit : units) new Walk(Trees.instance(task)).scan(unit, null);
        }
        Due.is("11 classes, some twelve", classes <= MOST_CLASSES ? 0 : classes, 0);
        library();
        recursion();
        depth();
        Due.end("ShapeTest");
    }

    private static final class Walk extends TreePathScanner<Void, Void> {
        private final Trees trees;
        private CompilationUnitTree unit;
        private Element method;

        Walk(Trees trees) {
            this.trees = trees;
        }

        @Override
        public Void visitCompilationUnit(CompilationUnitTree tree, Void none) {
            unit = tree;
            return super.visitCompilationUnit(tree, none);
        }

        @Override
        public Void visitClass(ClassTree tree, Void none) {
            classes++;
            int fields = 0;
            for (Tree member : tree.getMembers()) {
                if (!(member instanceof VariableTree)) continue;
                Set<Modifier> flags = ((VariableTree) member).getModifiers().getFlags();
                if (!flags.contains(Modifier.STATIC)) fields++;
            }
            Due.is("11 fields of " + tree.getSimpleName(), fields <= MOST_FIELDS ? 0 : fields, 0);
            return super.visitClass(tree, none);
        }

        @Override
        public Void visitMethod(MethodTree tree, Void none) {
            method = trees.getElement(getCurrentPath());
            CALLS.put(method, new HashSet<>());
            int parameters = tree.getParameters().size();
            Due.is("11 parameters of " + method, parameters <= MOST_PARAMETERS ? 0 : parameters, 0);
            long from = trees.getSourcePositions().getStartPosition(unit, tree);
            long to = trees.getSourcePositions().getEndPosition(unit, tree);
            if (to >= 0) {
                long lines = unit.getLineMap().getLineNumber(to) - unit.getLineMap().getLineNumber(from) + 1;
                Due.is("11 lines of " + method, lines <= MOST_LINES ? 0 : lines, 0);
            }
            super.visitMethod(tree, none);
            method = null;
            return null;
        }

        @Override
        public Void visitMethodInvocation(MethodInvocationTree tree, Void none) {
            calls(getCurrentPath());
            return super.visitMethodInvocation(tree, none);
        }

        @Override
        public Void visitNewClass(NewClassTree tree, Void none) {
            calls(getCurrentPath());
            return super.visitNewClass(tree, none);
        }

        private void calls(TreePath path) {
            if (method != null) CALLS.get(method).add(trees.getElement(path));
        }
    }

    /** 4: of the library, what stands there alone. */
    private static void library() {
        for (Set<Element> called : CALLS.values()) {
            for (Element one : called) {
                String name = one.getEnclosingElement() + "." + one;
                boolean own = name.startsWith("BearWitness");
                Due.is("4 library: " + name, own || LIBRARY.contains(name) ? 1 : 0, 1);
            }
        }
    }

    private static boolean reaches(Element from, Element to, Set<Element> seen) {
        for (Element called : CALLS.getOrDefault(from, Set.of())) {
            if (called.equals(to)) return true;
            if (seen.add(called) && reaches(called, to, seen)) return true;
        }
        return false;
    }

    /** 8: just these two call themselves, each with its depth as an argument. */
    private static void recursion() {
        Set<String> names = new TreeSet<>();
        for (Element one : CALLS.keySet()) {
            if (!reaches(one, one, new HashSet<>())) continue;
            RECURSIVE.add(one);
            names.add(one.toString());
        }
        Due.is("8 recursion: " + names, names.equals(Set.of("pressOn(int,int,int)", "playOut(int)")) ? 1 : 0, 1);
    }

    /** 11: from a public call on, calls that are no recursion go at most eight deep; what the library does counts, too. */
    private static void depth() {
        for (Element one : CALLS.keySet()) {
            List<Element> deepest = deepestFrom(one);
            if (deepest.size() > DEEPEST) Due.is("11 depth of " + deepest, deepest.size(), DEEPEST);
        }
        Due.is("11 methods are looked at", CALLS.size() > 43 ? 1 : 0, 1);
    }

    private static List<Element> deepestFrom(Element one) {
        List<Element> best = new ArrayList<>();
        for (Element called : CALLS.getOrDefault(one, Set.of())) {
            if (called.equals(one)) continue;
            List<Element> then = deepestFrom(called);
            if (then.size() > best.size()) best = then;
        }
        best = new ArrayList<>(best);
        best.add(0, one);
        return best;
    }
}
