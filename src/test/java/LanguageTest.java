import com.sun.source.tree.BinaryTree;
import com.sun.source.tree.ClassTree;
import com.sun.source.tree.CompilationUnitTree;
import com.sun.source.tree.MethodInvocationTree;
import com.sun.source.tree.MethodTree;
import com.sun.source.tree.NewArrayTree;
import com.sun.source.tree.NewClassTree;
import com.sun.source.tree.ThrowTree;
import com.sun.source.tree.Tree;
import com.sun.source.tree.VariableTree;
import com.sun.source.util.JavacTask;
import com.sun.source.util.SourcePositions;
import com.sun.source.util.TreePathScanner;
import com.sun.source.util.Trees;
import java.io.File;
import java.io.IOException;
import java.nio.file.Files;
import java.nio.file.Path;
import java.util.EnumSet;
import java.util.HashMap;
import java.util.HashSet;
import java.util.LinkedHashSet;
import java.util.List;
import java.util.Map;
import java.util.Set;
import javax.lang.model.element.Element;
import javax.lang.model.element.Modifier;
import javax.tools.JavaCompiler;
import javax.tools.StandardJavaFileManager;
import javax.tools.ToolProvider;

/** The rules of ../shared/LANGUAGE.md that can be read from the source with ease. */
public final class LanguageTest {
    private static final String PROGRAM = "src/main/java/DealDoubts.java";
    private static final int DEEPEST = 8;
    private static final int LONGEST = 60;
    private static final Set<String> LIBRARY = Set.of("arraycopy", "bitCount", "min");
    private static final Set<String> THROWN =
        Set.of("IllegalStateException", "IllegalArgumentException", "IndexOutOfBoundsException");
    private static final EnumSet<Tree.Kind> RULED_OUT = EnumSet.of(Tree.Kind.LAMBDA_EXPRESSION,
        Tree.Kind.MEMBER_REFERENCE, Tree.Kind.TRY, Tree.Kind.ASSERT, Tree.Kind.SYNCHRONIZED, Tree.Kind.IMPORT,
        Tree.Kind.PACKAGE, Tree.Kind.INSTANCE_OF, Tree.Kind.ANNOTATION);

    private LanguageTest() {
    }

    public static void main(String[] args) throws Exception {
        JavaCompiler compiler = ToolProvider.getSystemJavaCompiler();
        try (StandardJavaFileManager files = compiler.getStandardFileManager(null, null, null)) {
            JavacTask task = (JavacTask) compiler.getTask(null, files, null, List.of("-proc:none"), null,
                files.getJavaFileObjects(new File(PROGRAM)));
            CompilationUnitTree unit = task.parse().iterator().next();
            task.analyze();
            Reader reader = new Reader(Trees.instance(task), unit);
            reader.scan(unit, null);
            reader.report();
        }
        dueSigns();
        Checks.end("LanguageTest");
    }

    private static void dueSigns() throws IOException {
        int line = 1;
        for (byte sign : Files.readAllBytes(Path.of(PROGRAM))) {
            if (sign < 1) {
                Checks.fail("line " + line + " has a sign that is not 1 to 127");
            }
            line += sign == '\n' ? 1 : 0;
        }
    }

    private static final class Reader extends TreePathScanner<Void, Void> {
        private final Trees trees;
        private final CompilationUnitTree unit;
        private final Map<Element, Set<Element>> calls = new HashMap<>();
        private final Map<Element, Integer> depths = new HashMap<>();
        private Element method = null;
        private int classes = 0;

        Reader(Trees trees, CompilationUnitTree unit) {
            this.trees = trees;
            this.unit = unit;
        }

        void report() {
            Checks.due("classes", classes <= 12, true);
            for (Element start : calls.keySet()) {
                boolean isFlat = depthOf(start, new HashSet<>()) <= DEEPEST;
                Checks.due("calls below " + start + " go at most eight deep", isFlat, true);
            }
        }

        private int depthOf(Element start, Set<Element> open) {
            if (!open.add(start)) {
                Checks.fail(start + " calls itself");
                return 0;
            }
            if (!depths.containsKey(start)) {
                int below = 0;
                for (Element next : calls.getOrDefault(start, Set.of())) {
                    below = Math.max(below, depthOf(next, open));
                }
                depths.put(start, below + 1);
            }
            open.remove(start);
            return depths.get(start);
        }

        @Override
        public Void scan(Tree tree, Void none) {
            if (tree != null && RULED_OUT.contains(tree.getKind())) {
                Checks.fail(tree.getKind() + " in line " + lineOf(tree) + " is ruled out");
            }
            return super.scan(tree, none);
        }

        private long lineOf(Tree tree) {
            return unit.getLineMap().getLineNumber(trees.getSourcePositions().getStartPosition(unit, tree));
        }

        @Override
        public Void visitClass(ClassTree tree, Void none) {
            classes++;
            int fields = 0;
            for (Tree member : tree.getMembers()) {
                Checks.due("no initialiser block in line " + lineOf(member), member.getKind() != Tree.Kind.BLOCK, true);
                if (member instanceof VariableTree field) {
                    Set<Modifier> modifiers = field.getModifiers().getFlags();
                    boolean isStatic = modifiers.contains(Modifier.STATIC);
                    Checks.due(field + " is final if static", !isStatic || modifiers.contains(Modifier.FINAL), true);
                    fields += isStatic ? 0 : 1;
                }
            }
            Checks.due("fields of " + tree.getSimpleName(), fields <= 20, true);
            return super.visitClass(tree, none);
        }

        @Override
        public Void visitMethod(MethodTree tree, Void none) {
            method = trees.getElement(getCurrentPath());
            calls.computeIfAbsent(method, key -> new LinkedHashSet<>());
            SourcePositions places = trees.getSourcePositions();
            long last = unit.getLineMap().getLineNumber(Math.max(0, places.getEndPosition(unit, tree)));
            Checks.due(tree.getName() + " is short", last - lineOf(tree) < LONGEST, true);
            Checks.due(tree.getName() + " takes at most seven", tree.getParameters().size() <= 7, true);
            super.visitMethod(tree, none);
            method = null;
            return null;
        }

        @Override
        public Void visitMethodInvocation(MethodInvocationTree tree, Void none) {
            Element called = trees.getElement(getCurrentPath());
            String name = called.getSimpleName().toString();
            Element owner = called.getEnclosingElement();
            boolean isOurs = owner.toString().startsWith("DealDoubts");
            boolean isConstructor = name.equals("<init>");
            Checks.due("line " + lineOf(tree) + " may call " + owner + "." + name,
                isOurs || isConstructor || LIBRARY.contains(name), true);
            if (isOurs && method != null) {
                calls.get(method).add(called);
            }
            return super.visitMethodInvocation(tree, none);
        }

        @Override
        public Void visitNewClass(NewClassTree tree, Void none) {
            String made = tree.getIdentifier().toString();
            boolean isOurs = Set.of("Net", "History", "ActionText").contains(made);
            Checks.due("line " + lineOf(tree) + " may make " + made, isOurs || THROWN.contains(made), true);
            if (isOurs && method != null) {
                boolean isConstructor = method.getSimpleName().contentEquals("<init>");
                Checks.due("line " + lineOf(tree) + " makes rows in a constructor", isConstructor, true);
            }
            return super.visitNewClass(tree, none);
        }

        @Override
        public Void visitThrow(ThrowTree tree, Void none) {
            boolean isNew = tree.getExpression() instanceof NewClassTree;
            Checks.due("line " + lineOf(tree) + " throws a new exception", isNew, true);
            boolean isConstructor = method == null || method.getSimpleName().contentEquals("<init>");
            Checks.due("line " + lineOf(tree) + " throws in no constructor", isConstructor, false);
            return super.visitThrow(tree, none);
        }

        @Override
        public Void visitNewArray(NewArrayTree tree, Void none) {
            Checks.due("line " + lineOf(tree) + " makes an array as a field", method == null, true);
            return super.visitNewArray(tree, none);
        }

        @Override
        public Void visitBinary(BinaryTree tree, Void none) {
            boolean isText = tree.getKind() == Tree.Kind.PLUS && (isText(tree.getLeftOperand())
                || isText(tree.getRightOperand()));
            Checks.due("line " + lineOf(tree) + " joins no texts", isText, false);
            return super.visitBinary(tree, none);
        }

        private static boolean isText(Tree tree) {
            return tree.getKind() == Tree.Kind.STRING_LITERAL;
        }
    }
}
