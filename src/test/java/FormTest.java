import com.sun.source.tree.AssertTree;
import com.sun.source.tree.BlockTree;
import com.sun.source.tree.ClassTree;
import com.sun.source.tree.CompilationUnitTree;
import com.sun.source.tree.ExpressionTree;
import com.sun.source.tree.ForLoopTree;
import com.sun.source.tree.IdentifierTree;
import com.sun.source.tree.InstanceOfTree;
import com.sun.source.tree.LambdaExpressionTree;
import com.sun.source.tree.LiteralTree;
import com.sun.source.tree.MemberReferenceTree;
import com.sun.source.tree.MemberSelectTree;
import com.sun.source.tree.MethodInvocationTree;
import com.sun.source.tree.MethodTree;
import com.sun.source.tree.NewArrayTree;
import com.sun.source.tree.NewClassTree;
import com.sun.source.tree.SynchronizedTree;
import com.sun.source.tree.ThrowTree;
import com.sun.source.tree.Tree;
import com.sun.source.tree.TryTree;
import com.sun.source.tree.TypeCastTree;
import com.sun.source.tree.VariableTree;
import com.sun.source.tree.WhileLoopTree;
import com.sun.source.util.JavacTask;
import com.sun.source.util.TreeScanner;
import java.io.File;
import java.io.IOException;
import java.util.ArrayList;
import java.util.HashMap;
import java.util.List;
import java.util.Map;
import java.util.Set;
import java.util.TreeMap;
import java.util.TreeSet;
import javax.lang.model.element.Modifier;
import javax.tools.JavaCompiler;
import javax.tools.StandardJavaFileManager;
import javax.tools.ToolProvider;

/** The source keeps to the rules of LANGUAGE.md that can be read off its tree; found from the project's own folder. */
public final class FormTest {
    private static final String SOURCE = "src/main/java/Cavernbook.java";
    private static final Set<String> THROWN = Set.of("IllegalStateException", "IllegalArgumentException",
        "IndexOutOfBoundsException", "ArithmeticException", "UnsupportedOperationException",
        "NoSuchElementException", "RuntimeException");
    private static final Set<String> LIBRARY = Set.of("Math.max", "Math.min", "Math.abs", "Integer.bitCount",
        "Arrays.fill");
    private static final Set<String> PLAIN = Set.of("int", "long", "boolean", "float", "double", "void");

    private FormTest() {
    }

    public static void main(String[] args) throws IOException {
        Reader reader = new Reader();
        reader.scan(parsed(), null);
        for (Map.Entry<String, Set<String>> rule : reader.found.entrySet()) {
            Checks.due(rule.getKey(), new TreeSet<String>(), () -> rule.getValue());
        }
        Checks.due("at most twelve classes", true, () -> reader.classes.size() <= 12);
        Checks.due("types beyond plain numbers and own classes", new TreeSet<String>(), () -> reader.strangeTypes());
        Checks.due("calls of the library beyond the few", LIBRARY.toString(), () -> reader.libraryIsKnown());
        Checks.due("a method that calls itself, over others or not", "", () -> reader.circle());
        Checks.due("calls at most eight deep", true, () -> reader.deepest() <= 8);
        Checks.finish();
    }

    private static CompilationUnitTree parsed() throws IOException {
        JavaCompiler compiler = ToolProvider.getSystemJavaCompiler();
        try (StandardJavaFileManager files = compiler.getStandardFileManager(null, null, null)) {
            JavacTask task = (JavacTask) compiler.getTask(null, files, null, null, null,
                files.getJavaFileObjects(new File(SOURCE)));
            return task.parse().iterator().next();
        }
    }

    /** Gathers what a rule leaves out, and which method calls which. */
    private static final class Reader extends TreeScanner<Void, Void> {
        final Map<String, Set<String>> found = new TreeMap<>();
        final List<String> classes = new ArrayList<>();
        private final Set<String> types = new TreeSet<>();
        private final Set<String> library = new TreeSet<>();
        private final Map<String, Set<String>> calls = new HashMap<>();
        private String method = "";
        private boolean inThrow = false;

        Reader() {
            for (String rule : List.of("2 local classes", "2 lambdas and references", "5 static state",
                "5 static initialisers", "6 exceptions", "6 throws in constructors", "6 try", "6 other words",
                "9 loops without a condition", "11 parameters", "11 fields", "12 new outside constructors",
                "1 members that show")) {
                found.put(rule, new TreeSet<>());
            }
        }

        private void note(String rule, Object what) {
            found.get(rule).add(method + ": " + what);
        }

        @Override
        public Void visitClass(ClassTree node, Void none) {
            classes.add(node.getSimpleName().toString());
            if (!method.isEmpty()) {
                note("2 local classes", node.getSimpleName());
            }
            int fields = 0;
            for (Tree member : node.getMembers()) {
                if (member instanceof BlockTree) {
                    note("5 static initialisers", node.getSimpleName());
                }
                if (member instanceof VariableTree field) {
                    fields += isField(field) ? 1 : 0;
                }
            }
            if (fields > 20) {
                note("11 fields", node.getSimpleName());
            }
            boolean outer = classes.size() == 1;
            Set<Modifier> flags = node.getModifiers().getFlags();
            if (!outer && !(flags.contains(Modifier.PRIVATE) && flags.contains(Modifier.STATIC))) {
                note("1 members that show", node.getSimpleName());
            }
            return super.visitClass(node, none);
        }

        /** Constants are no fields here; what is static is one. */
        private boolean isField(VariableTree field) {
            Set<Modifier> flags = field.getModifiers().getFlags();
            if (!flags.contains(Modifier.STATIC)) {
                return true;
            }
            if (!flags.contains(Modifier.FINAL) || !PLAIN.contains(field.getType().toString())) {
                note("5 static state", field.getName());
            }
            return false;
        }

        @Override
        public Void visitMethod(MethodTree node, Void none) {
            String name = node.getName().toString();
            method = name.equals("<init>") ? "new " + classes.get(classes.size() - 1) : name;
            calls.putIfAbsent(method, new TreeSet<>());
            boolean face = node.getModifiers().getFlags().contains(Modifier.PUBLIC);
            if (node.getParameters().size() > 7 && !(face && name.equals("shot"))) {
                note("11 parameters", node.getParameters().size());
            }
            if (node.getReturnType() != null) {
                types.add(node.getReturnType().toString());
            }
            super.visitMethod(node, none);
            method = "";
            return null;
        }

        @Override
        public Void visitVariable(VariableTree node, Void none) {
            types.add(String.valueOf(node.getType()));
            return super.visitVariable(node, none);
        }

        @Override
        public Void visitMethodInvocation(MethodInvocationTree node, Void none) {
            ExpressionTree called = node.getMethodSelect();
            String name = called.toString();
            if (called instanceof MemberSelectTree chosen) {
                boolean own = !(chosen.getExpression() instanceof IdentifierTree owner)
                    || !Character.isUpperCase(owner.getName().charAt(0));
                name = chosen.getIdentifier().toString();
                if (!own) {
                    library.add(called.toString());
                }
            }
            calls.get(method).add(name);
            return super.visitMethodInvocation(node, none);
        }

        @Override
        public Void visitThrow(ThrowTree node, Void none) {
            if (method.startsWith("new ")) {
                note("6 throws in constructors", node);
            }
            boolean plain = node.getExpression() instanceof NewClassTree made
                && THROWN.contains(made.getIdentifier().toString())
                && made.getArguments().stream().allMatch(a -> a instanceof LiteralTree);
            if (!plain) {
                note("6 exceptions", node);
            }
            inThrow = true;
            super.visitThrow(node, none);
            inThrow = false;
            return null;
        }

        @Override
        public Void visitNewClass(NewClassTree node, Void none) {
            if (!inThrow && !method.startsWith("new ")) {
                note("12 new outside constructors", node);
            }
            if (!inThrow) {
                calls.get(method).add("new " + node.getIdentifier());
            }
            return super.visitNewClass(node, none);
        }

        @Override
        public Void visitNewArray(NewArrayTree node, Void none) {
            if (!method.startsWith("new ")) {
                note("12 new outside constructors", node);
            }
            return super.visitNewArray(node, none);
        }

        @Override
        public Void visitForLoop(ForLoopTree node, Void none) {
            if (node.getCondition() == null || node.getUpdate().isEmpty()) {
                note("9 loops without a condition", node);
            }
            return super.visitForLoop(node, none);
        }

        @Override
        public Void visitWhileLoop(WhileLoopTree node, Void none) {
            if (!node.getCondition().toString().contains("<")) {
                note("9 loops without a condition", node);
            }
            return super.visitWhileLoop(node, none);
        }

        @Override
        public Void visitLambdaExpression(LambdaExpressionTree node, Void none) {
            note("2 lambdas and references", node);
            return super.visitLambdaExpression(node, none);
        }

        @Override
        public Void visitMemberReference(MemberReferenceTree node, Void none) {
            note("2 lambdas and references", node);
            return super.visitMemberReference(node, none);
        }

        @Override
        public Void visitTry(TryTree node, Void none) {
            note("6 try", node);
            return super.visitTry(node, none);
        }

        @Override
        public Void visitSynchronized(SynchronizedTree node, Void none) {
            note("6 other words", node);
            return super.visitSynchronized(node, none);
        }

        @Override
        public Void visitAssert(AssertTree node, Void none) {
            note("6 other words", node);
            return super.visitAssert(node, none);
        }

        @Override
        public Void visitInstanceOf(InstanceOfTree node, Void none) {
            note("6 other words", node);
            return super.visitInstanceOf(node, none);
        }

        @Override
        public Void visitTypeCast(TypeCastTree node, Void none) {
            if (!PLAIN.contains(node.getType().toString())) {
                note("6 other words", node);
            }
            return super.visitTypeCast(node, none);
        }

        /** Two dimensions are for numbers alone. */
        Set<String> strangeTypes() {
            Set<String> strange = new TreeSet<>();
            for (String type : types) {
                String bare = type.replace("[]", "");
                int dimensions = (type.length() - bare.length()) / 2;
                boolean number = PLAIN.contains(bare) && !bare.equals("boolean");
                if (!PLAIN.contains(bare) && !classes.contains(bare) || dimensions > (number ? 2 : 1)) {
                    strange.add(type);
                }
            }
            return strange;
        }

        String libraryIsKnown() {
            return LIBRARY.containsAll(library) ? LIBRARY.toString() : library.toString();
        }

        /** The first method, by name, from which calls lead to itself. */
        String circle() {
            for (String start : new TreeSet<>(calls.keySet())) {
                Set<String> reached = new TreeSet<>();
                List<String> next = new ArrayList<>(calls.get(start));
                while (!next.isEmpty()) {
                    String name = next.remove(next.size() - 1);
                    if (calls.containsKey(name) && reached.add(name)) {
                        next.addAll(calls.get(name));
                    }
                }
                if (reached.contains(start)) {
                    return start;
                }
            }
            return "";
        }

        int deepest() {
            int deepest = 0;
            for (String start : calls.keySet()) {
                deepest = Math.max(deepest, depthOf(start, 0));
            }
            return deepest;
        }

        private int depthOf(String name, int above) {
            if (!calls.containsKey(name) || above > 20) {
                return above;
            }
            int deepest = above + 1;
            for (String called : calls.get(name)) {
                deepest = Math.max(deepest, depthOf(called, above + 1));
            }
            return deepest;
        }
    }
}
