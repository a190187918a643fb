import com.sun.source.tree.CompilationUnitTree;
import com.sun.source.tree.ExpressionTree;
import com.sun.source.tree.LineMap;
import com.sun.source.tree.LiteralTree;
import com.sun.source.tree.MethodInvocationTree;
import com.sun.source.tree.MethodTree;
import com.sun.source.tree.NewClassTree;
import com.sun.source.tree.ThrowTree;
import com.sun.source.util.JavacTask;
import com.sun.source.util.SourcePositions;
import com.sun.source.util.TreePathScanner;
import com.sun.source.util.Trees;
import java.io.IOException;
import java.nio.file.Path;
import java.util.HashMap;
import java.util.HashSet;
import java.util.List;
import java.util.Map;
import java.util.Set;
import java.util.TreeSet;
import javax.lang.model.element.Element;
import javax.lang.model.element.ElementKind;
import javax.lang.model.element.ExecutableElement;
import javax.tools.JavaCompiler;
import javax.tools.StandardJavaFileManager;
import javax.tools.ToolProvider;

/** Rules 4, 6, 8 and 11 of the language, by the compiler's own reading: what is called and thrown, how deep, how long. */
public final class CallsTest {
    private static final int MOST_DEEP = 8;
    private static final int MOST_LINES = 60;
    private static final Set<String> LIBRARY = Set.of(
            "ArrayList()", "ArrayList.size()", "ArrayList.get(int)", "ArrayList.add(E)", "ArrayList.remove(int)",
            "Math.min(int,int)", "Math.max(int,int)", "Integer.bitCount(int)", "System.arraycopy(Object,int,Object,int,int)",
            "IllegalArgumentException(String)", "IllegalStateException(String)", "IndexOutOfBoundsException(String)",
            "Object()");

    private static final Checks c = new Checks();

    private final Map<ExecutableElement, Set<ExecutableElement>> calls = new HashMap<>();
    private final Set<ExecutableElement> open = new HashSet<>();

    public static void main(String[] args) throws IOException {
        CallsTest test = new CallsTest();
        test.read(Path.of("src/main/java/HarbourlightMonitor.java"));
        test.depths();
        test.theLibrary();
        c.end();
    }

    private void read(Path file) throws IOException {
        JavaCompiler compiler = ToolProvider.getSystemJavaCompiler();
        StandardJavaFileManager files = compiler.getStandardFileManager(null, null, null);
        JavacTask task = (JavacTask) compiler.getTask(null, files, null, List.of("-proc:none"), null,
                files.getJavaFileObjects(file));
        CompilationUnitTree unit = task.parse().iterator().next();
        task.analyze();
        new Reader(Trees.instance(task), unit).scan(unit, null);
        c.due("methods were found", calls.size() > 26 ? 1 : 0, 1);
    }

    /** Notes what each method calls; looks at each throw and at the length of each method on its way. */
    private final class Reader extends TreePathScanner<Void, ExecutableElement> {
        private final Trees trees;
        private final CompilationUnitTree unit;

        Reader(Trees trees, CompilationUnitTree unit) {
            this.trees = trees;
            this.unit = unit;
        }

        @Override
        public Void visitMethod(MethodTree method, ExecutableElement around) {
            ExecutableElement self = (ExecutableElement) trees.getElement(getCurrentPath());
            calls.put(self, new HashSet<>());
            SourcePositions positions = trees.getSourcePositions();
            LineMap map = unit.getLineMap();
            // A constructor that is not written has no end.
            long end = Math.max(positions.getEndPosition(unit, method), positions.getStartPosition(unit, method));
            long lines = map.getLineNumber(end) - map.getLineNumber(positions.getStartPosition(unit, method)) + 1;
            c.due(self + " has " + lines + " lines", lines <= MOST_LINES ? 1 : 0, 1);
            return super.visitMethod(method, self);
        }

        @Override
        public Void visitMethodInvocation(MethodInvocationTree call, ExecutableElement around) {
            note(around);
            return super.visitMethodInvocation(call, around);
        }

        @Override
        public Void visitNewClass(NewClassTree made, ExecutableElement around) {
            note(around);
            return super.visitNewClass(made, around);
        }

        @Override
        public Void visitThrow(ThrowTree thrown, ExecutableElement around) {
            boolean isMade = thrown.getExpression() instanceof NewClassTree;
            c.due("a throw in " + around + " makes what it throws", isMade ? 1 : 0, 1);
            if (isMade) {
                for (ExpressionTree text : ((NewClassTree) thrown.getExpression()).getArguments()) {
                    c.due("a throw in " + around + " has a written text", text instanceof LiteralTree ? 1 : 0, 1);
                }
            }
            c.due("a throw in a constructor", around.getKind() == ElementKind.CONSTRUCTOR ? 1 : 0, 0);
            return super.visitThrow(thrown, around);
        }

        private void note(ExecutableElement around) {
            Element called = trees.getElement(getCurrentPath());
            // Without a method around it, it stands behind a field, and its constructor calls it.
            if (around != null && called instanceof ExecutableElement) {
                calls.get(around).add((ExecutableElement) called);
            }
        }
    }

    private void depths() {
        for (ExecutableElement method : calls.keySet()) {
            int deep = deepOf(method);
            c.due("calls from " + method + " on go " + deep + " deep", deep <= MOST_DEEP ? 1 : 0, 1);
        }
    }

    /** The library's own methods count as none. */
    private int deepOf(ExecutableElement method) {
        if (!calls.containsKey(method)) {
            return 0;
        }
        boolean isNew = open.add(method);
        c.due(method + " calls itself", isNew ? 0 : 1, 0);
        int deepest = 0;
        for (ExecutableElement called : isNew ? calls.get(method) : Set.<ExecutableElement>of()) {
            deepest = Math.max(deepest, deepOf(called));
        }
        open.remove(method);
        return deepest + 1;
    }

    private void theLibrary() {
        Set<String> used = new TreeSet<>();
        for (Set<ExecutableElement> each : calls.values()) {
            for (ExecutableElement called : each) {
                if (!calls.containsKey(called)) {
                    String owner = called.getEnclosingElement().getSimpleName().toString();
                    String name = called.toString().replaceAll("java\\.lang\\.", "").replaceAll("^<E>", "");
                    used.add(called.getKind() == ElementKind.CONSTRUCTOR ? name : owner + "." + name);
                }
            }
        }
        for (String one : used) {
            c.due("the library's " + one + " is one that the language leaves", LIBRARY.contains(one) ? 1 : 0, 1);
        }
    }
}
