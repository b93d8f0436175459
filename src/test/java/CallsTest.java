import com.sun.source.tree.BinaryTree;
import com.sun.source.tree.CompilationUnitTree;
import com.sun.source.tree.MethodInvocationTree;
import com.sun.source.tree.MethodTree;
import com.sun.source.tree.NewClassTree;
import com.sun.source.tree.ThrowTree;
import com.sun.source.tree.Tree;
import com.sun.source.util.JavacTask;
import com.sun.source.util.TreePath;
import com.sun.source.util.TreePathScanner;
import com.sun.source.util.Trees;
import java.io.IOException;
import java.util.ArrayDeque;
import java.util.Deque;
import java.util.List;
import java.util.Map;
import java.util.Set;
import java.util.TreeMap;
import java.util.TreeSet;
import javax.lang.model.element.Element;
import javax.lang.model.element.ElementKind;
import javax.lang.model.element.ExecutableElement;
import javax.lang.model.element.Modifier;
import javax.lang.model.element.TypeElement;
import javax.lang.model.type.TypeMirror;
import javax.tools.JavaCompiler;
import javax.tools.StandardJavaFileManager;
import javax.tools.ToolProvider;

/** Those rules of LANGUAGE.md that tell of calls and throws, asked of the source as the compiler reads it. */
public final class CallsTest {
    private static final String SOURCE = "src/main/java/PinCylinder.java";
    private static final int DEEPEST = 8;
    private static final Set<String> LIBRARY = Set.of("java.lang.Math.max", "java.lang.Math.min",
        "java.lang.Math.floorMod", "java.lang.Integer.bitCount", "java.lang.System.arraycopy",
        "java.lang.IllegalStateException.<init>", "java.lang.IllegalArgumentException.<init>",
        "java.lang.IndexOutOfBoundsException.<init>");

    /** What each method of the file calls, by the methods' names. */
    private static final Map<String, Set<String>> CALLED = new TreeMap<>();
    private static final Set<String> FACE = new TreeSet<>();

    private CallsTest() {
    }

    public static void main(String[] args) throws IOException {
        readSource();
        Check.due("methods of the face, and the constructor", 29, FACE.size());
        callsGoAtMostEightDeep();
        libraryIsTheOneThatIsListed();
        everyMethodIsCalled();
        Check.end();
    }

    private static void readSource() throws IOException {
        JavaCompiler compiler = ToolProvider.getSystemJavaCompiler();
        try (StandardJavaFileManager files = compiler.getStandardFileManager(null, null, null)) {
            JavacTask task = (JavacTask) compiler.getTask(null, files, null, List.of("-proc:none"), null,
                files.getJavaFileObjects(SOURCE));
            Iterable<? extends CompilationUnitTree> units = task.parse();
            task.analyze();
            for (CompilationUnitTree unit : units) {
                new Reader(Trees.instance(task)).scan(unit, null);
            }
        }
    }

    // ---- the rules

    /** Rule 11; a call of the library counts as one, and so does the call of the face that it all begins with. */
    private static void callsGoAtMostEightDeep() {
        for (String method : FACE) {
            int depth = depth(method, new ArrayDeque<>());
            if (depth > DEEPEST) {
                Check.fail(method + " goes " + depth + " calls deep");
            }
        }
    }

    private static int depth(String method, Deque<String> open) {
        if (open.contains(method)) {
            Check.fail(method + " comes to call itself");
            return 0;
        }
        open.push(method);
        int deepest = 0;
        for (String called : CALLED.getOrDefault(method, Set.of())) {
            deepest = Math.max(deepest, depth(called, open));
        }
        open.pop();
        return 1 + deepest;
    }

    /** Rule 4, as narrow as the class needs it. */
    private static void libraryIsTheOneThatIsListed() {
        for (Set<String> all : CALLED.values()) {
            for (String called : all) {
                if (!CALLED.containsKey(called) && !LIBRARY.contains(called)) {
                    Check.fail("the source calls " + called);
                }
            }
        }
    }

    private static void everyMethodIsCalled() {
        Set<String> known = new TreeSet<>(FACE);
        for (Set<String> all : CALLED.values()) {
            known.addAll(all);
        }
        for (String method : CALLED.keySet()) {
            if (!known.contains(method)) {
                Check.fail(method + " is never called");
            }
        }
    }

    // ---- the source

    private static final class Reader extends TreePathScanner<Void, Void> {
        private final Trees trees;

        Reader(Trees trees) {
            this.trees = trees;
        }

        private static String nameOf(Element method) {
            return ((TypeElement) method.getEnclosingElement()).getQualifiedName() + "." + method.getSimpleName();
        }

        private ExecutableElement openMethod() {
            for (TreePath path = getCurrentPath(); path != null; path = path.getParentPath()) {
                if (path.getLeaf().getKind() == Tree.Kind.METHOD) {
                    return (ExecutableElement) trees.getElement(path);
                }
            }
            return null;
        }

        /** A field's first value is made by the constructor of its class. */
        private String openName() {
            ExecutableElement method = openMethod();
            if (method != null) {
                return nameOf(method);
            }
            TreePath path = getCurrentPath();
            while (!(trees.getElement(path) instanceof TypeElement) || path.getLeaf().getKind() != Tree.Kind.CLASS) {
                path = path.getParentPath();
            }
            return ((TypeElement) trees.getElement(path)).getQualifiedName() + ".<init>";
        }

        private void calls() {
            String called = nameOf(trees.getElement(getCurrentPath()));
            if (!called.equals("java.lang.Object.<init>")) {
                CALLED.computeIfAbsent(openName(), name -> new TreeSet<>()).add(called);
            }
        }

        @Override
        public Void visitMethod(MethodTree tree, Void none) {
            ExecutableElement method = (ExecutableElement) trees.getElement(getCurrentPath());
            CALLED.computeIfAbsent(nameOf(method), name -> new TreeSet<>());
            if (method.getModifiers().contains(Modifier.PUBLIC)) {
                FACE.add(nameOf(method));
            }
            return super.visitMethod(tree, none);
        }

        @Override
        public Void visitMethodInvocation(MethodInvocationTree tree, Void none) {
            calls();
            return super.visitMethodInvocation(tree, none);
        }

        @Override
        public Void visitNewClass(NewClassTree tree, Void none) {
            calls();
            return super.visitNewClass(tree, none);
        }

        /** Rule 6: a call of the face throws what it names, and nothing else throws. */
        @Override
        public Void visitThrow(ThrowTree tree, Void none) {
            ExecutableElement method = openMethod();
            TypeMirror thrown = trees.getTypeMirror(new TreePath(getCurrentPath(), tree.getExpression()));
            boolean named = false;
            for (TypeMirror type : method.getThrownTypes()) {
                named |= type.toString().equals(thrown.toString());
            }
            boolean ofTheFace = FACE.contains(nameOf(method)) && method.getKind() == ElementKind.METHOD;
            if (!named || !ofTheFace || tree.getExpression().getKind() != Tree.Kind.NEW_CLASS) {
                Check.fail(nameOf(method) + " throws " + tree.getExpression());
            }
            return super.visitThrow(tree, none);
        }

        /** Rule 10: texts are not joined by +. Rule 7: a divisor is a constant, or the notes, which clean tests. */
        @Override
        public Void visitBinary(BinaryTree tree, Void none) {
            TypeMirror type = trees.getTypeMirror(getCurrentPath());
            if (tree.getKind() == Tree.Kind.PLUS && !type.getKind().isPrimitive()) {
                Check.fail("the source joins " + tree);
            }
            boolean divides = tree.getKind() == Tree.Kind.DIVIDE || tree.getKind() == Tree.Kind.REMAINDER;
            String divisor = tree.getRightOperand().toString();
            if (divides && !divisor.matches("[A-Z_]+|[1-9][0-9]*|\\(double\\)state\\.notes")) {
                Check.fail("the source divides by " + divisor);
            }
            return super.visitBinary(tree, none);
        }
    }
}
