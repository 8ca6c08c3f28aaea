import com.sun.source.tree.ClassTree;
import com.sun.source.tree.CompilationUnitTree;
import com.sun.source.tree.LineMap;
import com.sun.source.tree.MethodInvocationTree;
import com.sun.source.tree.MethodTree;
import com.sun.source.tree.NewClassTree;
import com.sun.source.tree.Tree;
import com.sun.source.util.JavacTask;
import com.sun.source.util.TreePathScanner;
import com.sun.source.util.Trees;
import java.io.IOException;
import java.lang.reflect.Field;
import java.lang.reflect.Modifier;
import java.nio.file.Files;
import java.nio.file.Path;
import java.util.HashMap;
import java.util.HashSet;
import java.util.List;
import java.util.Map;
import java.util.Set;
import java.util.regex.Pattern;
import javax.lang.model.element.Element;
import javax.lang.model.element.ExecutableElement;
import javax.tools.JavaCompiler;
import javax.tools.StandardJavaFileManager;
import javax.tools.ToolProvider;

/** Those rules of ../shared/LANGUAGE.md that can be counted or looked for in the program. */
public final class RulesTest {
    private static final Path PROGRAM = Path.of("src/main/java/FarStore.java");
    private static final int DEEPEST = 8;
    private static final int LONGEST = 60;

    /** By method, the methods that it calls, those of the library too. */
    private static final Map<Element, Set<Element>> calls = new HashMap<>();
    private static final Map<Element, Integer> depths = new HashMap<>();

    public static void main(String[] args) throws IOException {
        words();
        fields(FarStore.class);
        for (Class<?> inside : FarStore.class.getDeclaredClasses()) {
            fields(inside);
        }
        methods();
        Check.finish();
    }

    private static void words() throws IOException {
        String text = Files.readString(PROGRAM).replaceAll("(?s)/\\*.*?\\*/", "").replaceAll("//[^\n]*", "");
        String[] barred = {"\\bthrow\\b", "\\btry\\b", "\\bcatch\\b", "\\bsynchronized\\b", "\\bassert\\b", "->", "::",
            "\\bpackage\\b", "Exact\\(", "\\bSystem\\.(?!arraycopy)", "\\bhashCode\\b", "\\bRandom\\b",
            "\\bimport (?!java\\.util\\.(Arrays|ArrayList|List|Iterator);)", "\\bstatic \\{"};
        for (String one : barred) {
            Check.due(one + " stands in the program", false, Pattern.compile(one).matcher(text).find());
        }
    }

    private static void fields(Class<?> where) {
        List<Class<?>> constants = List.of(int.class, long.class, boolean.class, char.class, String.class,
            int[].class, long[].class, char[].class, byte[].class);
        int own = 0;
        for (Field field : where.getDeclaredFields()) {
            if (Modifier.isStatic(field.getModifiers())) {
                Check.due(field + " is a constant", true,
                    Modifier.isFinal(field.getModifiers()) && constants.contains(field.getType()));
            } else {
                own++;
            }
        }
        Check.due(where + " has some twenty fields at most, not " + own, true, own <= 20);
    }

    private static void methods() throws IOException {
        JavaCompiler compiler = ToolProvider.getSystemJavaCompiler();
        try (StandardJavaFileManager files = compiler.getStandardFileManager(null, null, null)) {
            JavacTask task = (JavacTask) compiler.getTask(null, files, null, List.of("-proc:none"), null,
                files.getJavaFileObjects(PROGRAM.toFile()));
            Iterable<? extends CompilationUnitTree> units = task.parse();
            task.analyze();
            for (CompilationUnitTree unit : units) {
                new Methods(Trees.instance(task), unit).scan(unit, null);
            }
        }
        for (Element method : calls.keySet()) {
            int depth = depth(method, new HashSet<>());
            Check.due(method + " goes " + depth + " calls deep, eight at most", true, depth <= DEEPEST);
        }
    }

    /** How many calls stand open at once, its own among them; the library's functions count one each. */
    private static int depth(Element method, Set<Element> open) {
        if (depths.containsKey(method)) {
            return depths.get(method);
        }
        Check.due(method + " is no recursion", true, open.add(method));
        int deepest = 0;
        for (Element called : calls.getOrDefault(method, Set.of())) {
            deepest = Math.max(deepest, open.contains(called) ? 0 : depth(called, open));
        }
        open.remove(method);
        depths.put(method, deepest + 1);
        return deepest + 1;
    }

    /** Looks at each method, and keeps what it calls. */
    private static final class Methods extends TreePathScanner<Void, Void> {
        private final Trees trees;
        private final CompilationUnitTree unit;
        private Element method = null;

        Methods(Trees trees, CompilationUnitTree unit) {
            this.trees = trees;
            this.unit = unit;
        }

        @Override
        public Void visitClass(ClassTree tree, Void nothing) {
            Element around = method;
            method = null;
            super.visitClass(tree, nothing);
            method = around;
            return null;
        }

        @Override
        public Void visitMethod(MethodTree tree, Void nothing) {
            method = trees.getElement(getCurrentPath());
            calls.put(method, new HashSet<>());
            Check.due(method + " takes at most seven parameters", true, tree.getParameters().size() <= 7);
            Check.due(method + " has " + lines(tree) + " lines, sixty at most", true, lines(tree) <= LONGEST);
            super.visitMethod(tree, nothing);
            method = null;
            return null;
        }

        private long lines(Tree tree) {
            LineMap map = unit.getLineMap();
            long first = trees.getSourcePositions().getStartPosition(unit, tree);
            long last = trees.getSourcePositions().getEndPosition(unit, tree);
            return first < 0 || last < 0 ? 0 : map.getLineNumber(last) - map.getLineNumber(first) + 1;
        }

        @Override
        public Void visitMethodInvocation(MethodInvocationTree tree, Void nothing) {
            called();
            return super.visitMethodInvocation(tree, nothing);
        }

        @Override
        public Void visitNewClass(NewClassTree tree, Void nothing) {
            called();
            return super.visitNewClass(tree, nothing);
        }

        private void called() {
            if (method != null && trees.getElement(getCurrentPath()) instanceof ExecutableElement one) {
                calls.get(method).add(one);
            }
        }
    }
}
