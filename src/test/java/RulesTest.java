import com.sun.source.tree.AssertTree;
import com.sun.source.tree.BinaryTree;
import com.sun.source.tree.ClassTree;
import com.sun.source.tree.CompilationUnitTree;
import com.sun.source.tree.ForLoopTree;
import com.sun.source.tree.ImportTree;
import com.sun.source.tree.LambdaExpressionTree;
import com.sun.source.tree.MemberReferenceTree;
import com.sun.source.tree.MethodInvocationTree;
import com.sun.source.tree.MethodTree;
import com.sun.source.tree.NewClassTree;
import com.sun.source.tree.SynchronizedTree;
import com.sun.source.tree.ThrowTree;
import com.sun.source.tree.Tree;
import com.sun.source.tree.TryTree;
import com.sun.source.tree.WhileLoopTree;
import com.sun.source.util.JavacTask;
import com.sun.source.util.TreePathScanner;
import com.sun.source.util.Trees;
import java.io.IOException;
import java.nio.file.Files;
import java.nio.file.Path;
import java.util.ArrayList;
import java.util.LinkedHashMap;
import java.util.LinkedHashSet;
import java.util.List;
import java.util.Map;
import java.util.Set;
import java.util.TreeSet;
import javax.lang.model.element.Element;
import javax.lang.model.element.ExecutableElement;
import javax.lang.model.element.TypeElement;
import javax.tools.JavaCompiler;
import javax.tools.StandardJavaFileManager;
import javax.tools.ToolProvider;

/**
 * What the compiler's trees of a program show of the rules of LANGUAGE.md. The program is found from
 * the project's root; small programs that break one rule each show that the test sees it.
 */
public final class RulesTest {
    private static final Path PROGRAM = Path.of("src/main/java/MissionDesk.java");
    /** "Some sixty lines." */
    private static final int LONGEST_METHOD = 70;
    private static final int MOST_PARAMETERS = 7;
    private static final int DEEPEST_CALLS = 8;
    private static final int MOST_CLASSES = 15;
    private static final Map<String, Set<String>> LIBRARY = Map.of(
            "java.lang.String", Set.of("length", "charAt", "isEmpty", "equals", "indexOf", "substring", "toCharArray"),
            "java.lang.StringBuilder", Set.of("append", "charAt", "setCharAt", "setLength", "deleteCharAt", "reverse",
                    "length", "toString"),
            "java.util.ArrayList", Set.of("add", "get", "set", "remove", "size", "isEmpty", "clear"),
            "java.util.List", Set.of("add", "get", "set", "remove", "size", "isEmpty", "clear", "of"),
            "java.lang.System", Set.of("arraycopy"),
            "java.util.Arrays", Set.of("copyOf", "copyOfRange", "fill"),
            "java.lang.Object", Set.of("<init>", "clone"));
    private static final Set<String> NUMBER_CLASSES = Set.of("java.lang.Integer", "java.lang.Long", "java.lang.Math");

    private final Set<String> broken = new TreeSet<>();
    private final Map<Element, Set<Element>> calls = new LinkedHashMap<>();
    private int classes;

    public static void main(String[] args) throws IOException {
        int wrong = 0;
        for (String rule : look(PROGRAM)) {
            wrong++;
            System.out.println("rules: the program: " + rule);
        }
        wrong += samples();
        System.out.println("rules: " + wrong + " wrong");
        if (wrong != 0) {
            System.exit(1);
        }
    }

    /** Each sample breaks the rule that stands before it, or none. */
    private static int samples() throws IOException {
        String chain = "";
        for (int n = 1; n <= 8; n++) {
            chain += "static int f" + n + "(int x) { return " + (n < 8 ? "f" + (n + 1) + "(x)" : "Math.abs(x)") + "; } ";
        }
        String[][] samples = {
            {"", chain.replace("Math.abs(x)", "x")},
            {"too deep", chain},
            {"", "static int f(int x) { return x > 0 ? f(x - 1) : x; }"},
            {"library", "static int f(int x) { return Math.addExact(x, 1); }"},
            {"library", "static int f(String x) { return x.hashCode(); }"},
            {"library", "static void f() { System.out.println(); }"},
            {"library", "static long f() { return System.nanoTime(); }"},
            {"throw", "static void f() { throw null; }"},
            {"try", "static void f() { try { f(); } finally { } }"},
            {"assert", "static void f(int x) { assert x > 0; }"},
            {"synchronized", "void f() { synchronized (this) { } }"},
            {"lambda", "interface I { int g(int x); } static I f() { return x -> x; }"},
            {"method reference", "interface I { int g(int x); } static I f() { return Math::abs; }"},
            {"class inside a method", "static void f() { class L { } }"},
            {"class inside a method", "static Object f() { return new Object() { }; }"},
            {"loop without an end", "static void f() { while (true) { } }"},
            {"loop without an end", "static void f() { for (;;) { } }"},
            {"texts joined by +", "static String f(int x) { return \"\" + x; }"},
            {"parameters", "static void f(int a, int b, int c, int d, int e, int f, int g, int h) { }"},
            {"static block", "static { }"},
            {"too long", "static void f() {" + "\n".repeat(LONGEST_METHOD) + "}"},
            {"too many classes", classes(MOST_CLASSES)}};
        int wrong = 0;
        Path sample = Files.createTempDirectory("rules").resolve("Sample.java");
        for (String[] one : samples) {
            Files.writeString(sample, "final class Sample { " + one[1] + " }");
            String found = String.join(", ", look(sample));
            if (one[0].isEmpty() != found.isEmpty() || !found.contains(one[0])) {
                wrong++;
                System.out.println("rules: due is '" + one[0] + "', found '" + found + "' in " + one[1]);
            }
        }
        Files.delete(sample);
        Files.delete(sample.getParent());
        return wrong;
    }

    private static String classes(int n) {
        StringBuilder text = new StringBuilder();
        for (int i = 0; i < n; i++) {
            text.append("static class C").append(i).append(" { } ");
        }
        return text.toString();
    }

    /** The rules that the program breaks. */
    private static Set<String> look(Path program) throws IOException {
        JavaCompiler compiler = ToolProvider.getSystemJavaCompiler();
        RulesTest test = new RulesTest();
        try (StandardJavaFileManager files = compiler.getStandardFileManager(null, null, null)) {
            // Warnings are for .ci/run, which compiles the program alone.
            JavacTask task = (JavacTask) compiler.getTask(null, files, said -> { }, List.of("-proc:none"), null,
                    files.getJavaFileObjects(program));
            Iterable<? extends CompilationUnitTree> units = task.parse();
            task.analyze();
            for (CompilationUnitTree unit : units) {
                test.look(unit, Trees.instance(task));
            }
        }
        test.depths();
        if (test.classes > MOST_CLASSES) {
            test.broken.add("too many classes: " + test.classes);
        }
        return test.broken;
    }

    private void look(CompilationUnitTree unit, Trees trees) {
        if (unit.getPackageName() != null) {
            broken.add("a package");
        }
        for (ImportTree imported : unit.getImports()) {
            if (!imported.getQualifiedIdentifier().toString().matches("java\\.util\\.(ArrayList|List|Arrays|Iterator)")) {
                broken.add("library: " + imported);
            }
        }
        new Look(unit, trees).scan(unit, null);
    }

    private void called(Element caller, Element callee) {
        calls.computeIfAbsent(caller, unused -> new LinkedHashSet<>()).add(callee);
    }

    private void depths() {
        for (Element method : calls.keySet()) {
            lookInto(method, new ArrayList<>());
        }
    }

    /** The open ones are counted with the library's; "calls that are no recursion", so each is counted once. */
    private void lookInto(Element method, List<Element> open) {
        if (open.contains(method)) {
            return;
        }
        open.add(method);
        if (open.size() > DEEPEST_CALLS) {
            broken.add("too deep: " + open);
        }
        for (Element callee : calls.getOrDefault(method, Set.of())) {
            lookInto(callee, open);
        }
        open.remove(open.size() - 1);
    }

    private final class Look extends TreePathScanner<Void, Void> {
        private final CompilationUnitTree unit;
        private final Trees trees;
        private Element inside;

        Look(CompilationUnitTree unit, Trees trees) {
            this.unit = unit;
            this.trees = trees;
        }

        @Override
        public Void visitClass(ClassTree tree, Void unused) {
            classes++;
            if (inside != null) {
                broken.add("class inside a method: " + tree.getSimpleName());
            }
            for (Tree member : tree.getMembers()) {
                if (member.getKind() == Tree.Kind.BLOCK) {
                    broken.add("static block");
                }
            }
            return super.visitClass(tree, unused);
        }

        @Override
        public Void visitMethod(MethodTree tree, Void unused) {
            if (tree.getParameters().size() > MOST_PARAMETERS) {
                broken.add("parameters: " + tree.getName());
            }
            if (line(tree, true) - line(tree, false) + 1 > LONGEST_METHOD) {
                broken.add("too long: " + tree.getName());
            }
            Element before = inside;
            inside = trees.getElement(getCurrentPath());
            super.visitMethod(tree, unused);
            inside = before;
            return null;
        }

        private long line(Tree tree, boolean end) {
            return unit.getLineMap().getLineNumber(end ? trees.getSourcePositions().getEndPosition(unit, tree)
                    : trees.getSourcePositions().getStartPosition(unit, tree));
        }

        @Override
        public Void visitMethodInvocation(MethodInvocationTree tree, Void unused) {
            call();
            return super.visitMethodInvocation(tree, unused);
        }

        @Override
        public Void visitNewClass(NewClassTree tree, Void unused) {
            call();
            return super.visitNewClass(tree, unused);
        }

        private void call() {
            ExecutableElement callee = (ExecutableElement) trees.getElement(getCurrentPath());
            TypeElement owner = (TypeElement) callee.getEnclosingElement();
            String ownerName = owner.getQualifiedName().toString();
            String name = callee.getSimpleName().toString();
            boolean own = trees.getTree(callee) != null || trees.getTree(owner) != null;
            boolean fine = own || LIBRARY.getOrDefault(ownerName, Set.of()).contains(name)
                    || (NUMBER_CLASSES.contains(ownerName) && !name.endsWith("Exact"))
                    || (name.equals("<init>") && LIBRARY.containsKey(ownerName));
            if (!fine) {
                broken.add("library: " + ownerName + "." + name);
            }
            // A constructor's call of Object's own does nothing.
            if (inside != null && !ownerName.equals("java.lang.Object")) {
                called(inside, callee);
            }
        }

        @Override
        public Void visitBinary(BinaryTree tree, Void unused) {
            if (tree.getKind() == Tree.Kind.PLUS && trees.getTypeMirror(getCurrentPath()).toString().endsWith("String")) {
                broken.add("texts joined by +");
            }
            return super.visitBinary(tree, unused);
        }

        @Override
        public Void visitWhileLoop(WhileLoopTree tree, Void unused) {
            if (tree.getCondition().toString().equals("(true)")) {
                broken.add("loop without an end");
            }
            return super.visitWhileLoop(tree, unused);
        }

        @Override
        public Void visitForLoop(ForLoopTree tree, Void unused) {
            if (tree.getCondition() == null) {
                broken.add("loop without an end");
            }
            return super.visitForLoop(tree, unused);
        }

        @Override
        public Void visitThrow(ThrowTree tree, Void unused) {
            broken.add("throw");
            return super.visitThrow(tree, unused);
        }

        @Override
        public Void visitTry(TryTree tree, Void unused) {
            broken.add("try");
            return super.visitTry(tree, unused);
        }

        @Override
        public Void visitAssert(AssertTree tree, Void unused) {
            broken.add("assert");
            return super.visitAssert(tree, unused);
        }

        @Override
        public Void visitSynchronized(SynchronizedTree tree, Void unused) {
            broken.add("synchronized");
            return super.visitSynchronized(tree, unused);
        }

        @Override
        public Void visitLambdaExpression(LambdaExpressionTree tree, Void unused) {
            broken.add("lambda");
            return super.visitLambdaExpression(tree, unused);
        }

        @Override
        public Void visitMemberReference(MemberReferenceTree tree, Void unused) {
            broken.add("method reference");
            return super.visitMemberReference(tree, unused);
        }
    }
}
