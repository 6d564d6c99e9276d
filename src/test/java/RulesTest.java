import com.sun.source.tree.AssertTree;
import com.sun.source.tree.ClassTree;
import com.sun.source.tree.CompilationUnitTree;
import com.sun.source.tree.ExpressionTree;
import com.sun.source.tree.IdentifierTree;
import com.sun.source.tree.LambdaExpressionTree;
import com.sun.source.tree.LineMap;
import com.sun.source.tree.LiteralTree;
import com.sun.source.tree.MemberReferenceTree;
import com.sun.source.tree.MemberSelectTree;
import com.sun.source.tree.MethodInvocationTree;
import com.sun.source.tree.MethodTree;
import com.sun.source.tree.NewArrayTree;
import com.sun.source.tree.NewClassTree;
import com.sun.source.tree.SynchronizedTree;
import com.sun.source.tree.ThrowTree;
import com.sun.source.tree.Tree;
import com.sun.source.tree.TryTree;
import com.sun.source.tree.VariableTree;
import com.sun.source.util.JavacTask;
import com.sun.source.util.SourcePositions;
import com.sun.source.util.TreeScanner;
import com.sun.source.util.Trees;
import java.io.IOException;
import java.nio.charset.StandardCharsets;
import java.nio.file.Files;
import java.nio.file.Path;
import java.util.List;
import java.util.Map;
import java.util.Set;
import java.util.TreeMap;
import java.util.TreeSet;
import javax.lang.model.element.Modifier;
import javax.tools.JavaCompiler;
import javax.tools.StandardJavaFileManager;
import javax.tools.ToolProvider;

/** How the program is written, as far as ../shared/LANGUAGE.md lets it be counted. Runs in the project's folder. */
public final class RulesTest {
    private static final Path PROGRAM = Path.of("src/main/java/ChargePark.java");
    private static final Set<String> EXCEPTIONS =
        Set.of("IllegalStateException", "IllegalArgumentException", "IndexOutOfBoundsException");
    private static final Set<String> LIBRARY = Set.of("Math.max", "Math.min");
    private static final int MOST_LINES = 60;
    private static final int MOST_PARAMETERS = 7;
    private static final int MOST_FIELDS = 20;
    private static final int DEEPEST_CALL = 8;
    private static final Checks c = new Checks("RulesTest");

    public static void main(String[] args) throws IOException {
        String text = Files.readString(PROGRAM, StandardCharsets.UTF_8);
        c.yes("rule 4: signs of 1 to 127 alone", text.chars().allMatch(sign -> sign > 0 && sign < 128));
        JavaCompiler compiler = ToolProvider.getSystemJavaCompiler();
        try (StandardJavaFileManager files = compiler.getStandardFileManager(null, null, StandardCharsets.UTF_8)) {
            JavacTask task = (JavacTask) compiler.getTask(null, files, null, null, null,
                files.getJavaFileObjects(PROGRAM));
            CompilationUnitTree file = task.parse().iterator().next();
            look(file, Trees.instance(task).getSourcePositions());
        }
        c.end();
    }

    private static void look(CompilationUnitTree file, SourcePositions positions) {
        c.yes("no package line", file.getPackageName() == null);
        c.same("rule 4: imports", file.getImports().size(), 0);
        c.same("one class in the file", file.getTypeDecls().size(), 1);
        ClassTree program = (ClassTree) file.getTypeDecls().get(0);
        Finder finder = new Finder();
        finder.scan(program, null);
        c.same("what the rules do not let stand", finder.refused.toString(), "[]");
        lookAtFields(program);
        for (MethodTree method : finder.methods.values()) {
            LineMap lines = file.getLineMap();
            long first = lines.getLineNumber(positions.getStartPosition(file, method));
            long last = lines.getLineNumber(positions.getEndPosition(file, method));
            c.yes("rule 11: lines of " + method.getName(), last - first < MOST_LINES);
            c.yes("rule 11: parameters of " + method.getName(), method.getParameters().size() <= MOST_PARAMETERS);
        }
        for (String method : finder.methods.keySet()) {
            c.yes("rule 11: depth of the calls of " + method, depth(method, finder.calls, DEEPEST_CALL + 1) <= DEEPEST_CALL);
        }
    }

    private static void lookAtFields(ClassTree program) {
        int fields = 0;
        for (Tree member : program.getMembers()) {
            if (member instanceof VariableTree field) {
                Set<Modifier> modifiers = field.getModifiers().getFlags();
                if (modifiers.contains(Modifier.STATIC)) {
                    c.yes("rule 5: " + field.getName() + " is final", modifiers.contains(Modifier.FINAL));
                } else {
                    c.yes("rule 1: " + field.getName() + " is private", modifiers.contains(Modifier.PRIVATE));
                    fields++;
                }
            } else {
                c.yes("rule 5: no static block", member instanceof MethodTree);
            }
        }
        c.yes("rule 11: fields", fields <= MOST_FIELDS);
    }

    /** How many calls stand open at once; a row of calls without end counts as more than any bound. */
    private static int depth(String method, Map<String, Set<String>> calls, int bound) {
        if (bound == 0) {
            return 1;
        }
        int deepest = 0;
        for (String called : calls.getOrDefault(method, Set.of())) {
            deepest = Math.max(deepest, depth(called, calls, bound - 1));
        }
        return 1 + deepest;
    }

    private static final class Finder extends TreeScanner<Void, Void> {
        final Map<String, MethodTree> methods = new TreeMap<>();
        final Map<String, Set<String>> calls = new TreeMap<>();
        final Set<String> refused = new TreeSet<>();
        private MethodTree method;

        private boolean isInConstructor() {
            return method != null && method.getReturnType() == null;
        }

        private Void refuse(String what) {
            refused.add(what + (method == null ? "" : " in " + method.getName()));
            return null;
        }

        @Override
        public Void visitMethod(MethodTree node, Void none) {
            method = node;
            if (methods.put(node.getName().toString(), node) != null) {
                refuse("a second method of one name");
            }
            super.visitMethod(node, none);
            method = null;
            return null;
        }

        @Override
        public Void visitMethodInvocation(MethodInvocationTree node, Void none) {
            ExpressionTree called = node.getMethodSelect();
            if (method == null) {
                refuse("a call outside a method");
            } else if (called instanceof IdentifierTree || LIBRARY.contains(called.toString())) {
                // The compiler's parser writes the constructor's call of Object's one too.
                if (!called.toString().equals("super")) {
                    calls.computeIfAbsent(method.getName().toString(), key -> new TreeSet<>()).add(called.toString());
                }
                if (isInConstructor() && !called.toString().equals("super")) {
                    refuse("a call");
                }
            } else {
                refuse("rule 4: " + called);
            }
            return super.visitMethodInvocation(node, none);
        }

        @Override
        public Void visitThrow(ThrowTree node, Void none) {
            if (isInConstructor()) {
                refuse("rule 6: throw");
            }
            boolean made = node.getExpression() instanceof NewClassTree;
            if (!made || !isWritten((NewClassTree) node.getExpression())) {
                refuse("rule 6: " + node);
            }
            return null;
        }

        private static boolean isWritten(NewClassTree made) {
            List<? extends ExpressionTree> texts = made.getArguments();
            boolean written = texts.isEmpty() || texts.size() == 1 && texts.get(0) instanceof LiteralTree;
            return written && made.getClassBody() == null && EXCEPTIONS.contains(made.getIdentifier().toString());
        }

        // A call of the face makes nothing but the exception that it throws: all rows are made with the park.
        @Override
        public Void visitNewClass(NewClassTree node, Void none) {
            return refuse("an object is made");
        }

        @Override
        public Void visitNewArray(NewArrayTree node, Void none) {
            return isInConstructor() ? super.visitNewArray(node, none) : refuse("an array is made");
        }

        @Override
        public Void visitMemberSelect(MemberSelectTree node, Void none) {
            return LIBRARY.contains(node.toString()) ? null : refuse("rule 4: " + node);
        }

        @Override
        public Void visitClass(ClassTree node, Void none) {
            if (node.getKind() != Tree.Kind.CLASS || method != null) {
                refuse("a class of another kind");
            }
            return super.visitClass(node, none);
        }

        @Override
        public Void visitLambdaExpression(LambdaExpressionTree node, Void none) {
            return refuse("rule 2: a lambda");
        }

        @Override
        public Void visitMemberReference(MemberReferenceTree node, Void none) {
            return refuse("rule 2: a method reference");
        }

        @Override
        public Void visitTry(TryTree node, Void none) {
            return refuse("rule 6: try");
        }

        @Override
        public Void visitAssert(AssertTree node, Void none) {
            return refuse("rule 6: assert");
        }

        @Override
        public Void visitSynchronized(SynchronizedTree node, Void none) {
            return refuse("rule 6: synchronized");
        }
    }
}
