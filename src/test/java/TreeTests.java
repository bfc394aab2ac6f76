import com.sun.source.tree.ClassTree;
import com.sun.source.tree.CompilationUnitTree;
import com.sun.source.tree.DoWhileLoopTree;
import com.sun.source.tree.ForLoopTree;
import com.sun.source.tree.MethodInvocationTree;
import com.sun.source.tree.MethodTree;
import com.sun.source.tree.NewClassTree;
import com.sun.source.tree.VariableTree;
import com.sun.source.tree.WhileLoopTree;
import com.sun.source.util.JavacTask;
import com.sun.source.util.TreePath;
import com.sun.source.util.TreePathScanner;
import com.sun.source.util.Trees;
import java.io.IOException;
import java.nio.file.Path;
import java.util.HashMap;
import java.util.HashSet;
import java.util.Map;
import java.util.Set;
import java.util.TreeSet;
import javax.lang.model.element.Element;
import javax.lang.model.type.ArrayType;
import javax.lang.model.type.TypeMirror;
import javax.tools.JavaCompiler;
import javax.tools.StandardJavaFileManager;
import javax.tools.ToolProvider;

/** Rules of LANGUAGE.md that the compiler's tree of the program shows. */
final class TreeTests {
    private static final Path PROGRAM = Path.of("src", "main", "java", "FeatureAnalyzer.java");
    private static final int DEEPEST = 8;
    private static final Set<String> OBJECTS = Set.of("java.lang.String", "java.lang.StringBuilder",
            "java.lang.Integer");
    // Those that the program uses; the rule lists more.
    private static final Set<String> FUNCTIONS = Set.of("java.lang.Integer.bitCount(int)",
            "java.lang.Math.abs(int)", "java.lang.Math.max(int,int)", "java.util.Arrays.fill(int[],int)");
    private static final Set<String> EXCEPTIONS = Set.of("java.lang.IllegalStateException",
            "java.lang.IllegalArgumentException", "java.lang.IndexOutOfBoundsException");

    private TreeTests() {
    }

    static void addTo(Suite suite) {
        suite.test("form: rule 3, types", () -> none(new Reading().types));
        suite.test("form: rule 4, functions of the library", () -> none(new Reading().functions));
        suite.test("form: rules 4 and 6, what is made with new", () -> none(new Reading().made));
        suite.test("form: rule 8, no recursion; rule 11, calls at most eight deep", () ->
                new Reading().checkDepth());
        suite.test("form: rule 9, loops with a bound and a step", () -> none(new Reading().endless));
    }

    private static void none(Set<String> outside) {
        if (!outside.isEmpty()) {
            throw new AssertionError("the program has " + outside);
        }
    }

    /** One way through the program; each set holds what is outside a rule. */
    private static final class Reading extends TreePathScanner<Void, Void> {
        private final Trees trees;
        private final Set<Element> own = new HashSet<>();
        private final Set<String> types = new TreeSet<>();
        private final Set<String> functions = new TreeSet<>();
        private final Set<String> made = new TreeSet<>();
        private final Set<String> endless = new TreeSet<>();
        private final Map<Element, Set<Element>> calls = new HashMap<>();
        private Element method;

        Reading() {
            JavaCompiler compiler = ToolProvider.getSystemJavaCompiler();
            try (StandardJavaFileManager files = compiler.getStandardFileManager(null, null, null)) {
                JavacTask task = (JavacTask) compiler.getTask(null, files, null, null, null,
                        files.getJavaFileObjects(PROGRAM));
                trees = Trees.instance(task);
                Iterable<? extends CompilationUnitTree> units = task.parse();
                task.analyze();
                for (CompilationUnitTree unit : units) {
                    new Owners().scan(unit, null);
                    scan(unit, null);
                }
            } catch (IOException e) {
                throw new AssertionError("there is no " + PROGRAM);
            }
        }

        /** The program's own classes and methods, found before they are used. */
        private final class Owners extends TreePathScanner<Void, Void> {
            @Override
            public Void visitClass(ClassTree tree, Void nothing) {
                own.add(trees.getElement(getCurrentPath()));
                return super.visitClass(tree, nothing);
            }

            @Override
            public Void visitMethod(MethodTree tree, Void nothing) {
                own.add(trees.getElement(getCurrentPath()));
                return super.visitMethod(tree, nothing);
            }
        }

        @Override
        public Void visitMethod(MethodTree tree, Void nothing) {
            method = trees.getElement(getCurrentPath());
            calls.put(method, new HashSet<>());
            if (tree.getReturnType() != null) {
                checkType(new TreePath(getCurrentPath(), tree.getReturnType()));
            }
            return super.visitMethod(tree, nothing);
        }

        @Override
        public Void visitVariable(VariableTree tree, Void nothing) {
            checkType(getCurrentPath());
            return super.visitVariable(tree, nothing);
        }

        @Override
        public Void visitMethodInvocation(MethodInvocationTree tree, Void nothing) {
            Element called = trees.getElement(getCurrentPath());
            if (own.contains(called)) {
                calls.get(method).add(called);
            } else if (!called.getSimpleName().contentEquals("<init>")
                    && !FUNCTIONS.contains(called.getEnclosingElement() + "." + called)) {
                functions.add(called.getEnclosingElement() + "." + called);
            }
            return super.visitMethodInvocation(tree, nothing);
        }

        @Override
        public Void visitNewClass(NewClassTree tree, Void nothing) {
            TypeMirror type = trees.getTypeMirror(getCurrentPath());
            if (!isOwn(type) && !EXCEPTIONS.contains(type.toString())) {
                made.add(type.toString());
            }
            return super.visitNewClass(tree, nothing);
        }

        @Override
        public Void visitForLoop(ForLoopTree tree, Void nothing) {
            if (tree.getCondition() == null || tree.getUpdate().isEmpty()) {
                endless.add(tree.toString());
            }
            return super.visitForLoop(tree, nothing);
        }

        /** The program needs none of them, and their ends are harder to see. */
        @Override
        public Void visitWhileLoop(WhileLoopTree tree, Void nothing) {
            endless.add(tree.toString());
            return super.visitWhileLoop(tree, nothing);
        }

        @Override
        public Void visitDoWhileLoop(DoWhileLoopTree tree, Void nothing) {
            endless.add(tree.toString());
            return super.visitDoWhileLoop(tree, nothing);
        }

        private boolean isOwn(TypeMirror type) {
            return own.stream().anyMatch(e -> e.asType().toString().equals(type.toString()));
        }

        private void checkType(TreePath path) {
            TypeMirror type = trees.getTypeMirror(path);
            boolean isFine = switch (type.getKind()) {
                case INT, LONG, SHORT, BYTE, CHAR, BOOLEAN, DOUBLE, FLOAT, VOID -> true;
                case ARRAY -> isFineArray((ArrayType) type);
                default -> OBJECTS.contains(type.toString()) || isOwn(type);
            };
            if (!isFine) {
                types.add(type.toString());
            }
        }

        private boolean isFineArray(ArrayType type) {
            TypeMirror element = type.getComponentType();
            if (element instanceof ArrayType row) {
                return row.getComponentType().getKind().isPrimitive();
            }
            return element.getKind().isPrimitive() || isOwn(element);
        }

        private void checkDepth() {
            Check.due(true, calls.size() > 0);
            for (Element start : calls.keySet()) {
                Check.due(true, depthOf(start, 1) <= DEEPEST);
            }
        }

        /** How many calls stand open below a method, itself among them; a circle has no end. */
        private int depthOf(Element start, int above) {
            if (above > DEEPEST) {
                throw new AssertionError("too deep: " + start);
            }
            int depth = 1;
            for (Element called : calls.getOrDefault(start, Set.of())) {
                depth = Math.max(depth, 1 + depthOf(called, above + 1));
            }
            return depth;
        }
    }
}
