import com.sun.source.tree.AssertTree;
import com.sun.source.tree.BinaryTree;
import com.sun.source.tree.BlockTree;
import com.sun.source.tree.ClassTree;
import com.sun.source.tree.CompilationUnitTree;
import com.sun.source.tree.CompoundAssignmentTree;
import com.sun.source.tree.DoWhileLoopTree;
import com.sun.source.tree.EnhancedForLoopTree;
import com.sun.source.tree.ForLoopTree;
import com.sun.source.tree.ImportTree;
import com.sun.source.tree.LambdaExpressionTree;
import com.sun.source.tree.MemberReferenceTree;
import com.sun.source.tree.MethodInvocationTree;
import com.sun.source.tree.MethodTree;
import com.sun.source.tree.NewArrayTree;
import com.sun.source.tree.NewClassTree;
import com.sun.source.tree.SynchronizedTree;
import com.sun.source.tree.ThrowTree;
import com.sun.source.tree.Tree;
import com.sun.source.tree.TryTree;
import com.sun.source.tree.TypeCastTree;
import com.sun.source.tree.VariableTree;
import com.sun.source.tree.WhileLoopTree;
import com.sun.source.util.JavacTask;
import com.sun.source.util.SourcePositions;
import com.sun.source.util.TreeScanner;
import com.sun.source.util.Trees;
import java.io.IOException;
import java.nio.file.Path;
import java.util.List;
import java.util.Map;
import java.util.Set;
import java.util.TreeMap;
import java.util.TreeSet;
import javax.lang.model.element.Modifier;
import javax.tools.JavaCompiler;
import javax.tools.StandardJavaFileManager;
import javax.tools.ToolProvider;

/**
 * What javac's own tree of the class shows of the rules of LANGUAGE.md, by their numbers.
 * It asks somewhat more than they do where the class needs less: no throw, no try, no recursion.
 */
public final class LanguageTest {
    private static final Path SOURCE = Path.of("src", "main", "java", "RollStages.java");

    private static final Set<String> IMPORTS = Set.of("java.util.Arrays");
    private static final Set<String> LIBRARY = Set.of("Arrays.fill", "System.arraycopy", "Math.max");
    private static final Set<String> STATIC_TYPES = Set.of("int", "long", "boolean", "char", "String");
    private static final Set<String> CASTS = Set.of("int", "long");
    private static final Set<String> MAKERS = Set.of("release", "machine");

    private static final int MOST_PARAMETERS = 7;
    private static final int MOST_LINES = 60;
    private static final int MOST_DEEP = 8;
    private static final int MOST_CLASSES = 12;
    private static final int MOST_FIELDS = 20;

    private static final Due DUE = new Due("LanguageTest");

    private LanguageTest() {
    }

    public static void main(String[] args) throws IOException {
        JavaCompiler compiler = ToolProvider.getSystemJavaCompiler();
        try (StandardJavaFileManager files = compiler.getStandardFileManager(null, null, null)) {
            JavacTask task = (JavacTask) compiler.getTask(null, files, null, null, null, files.getJavaFileObjects(SOURCE));
            CompilationUnitTree unit = task.parse().iterator().next();
            topOfTheFile(unit);
            Calls calls = new Calls();
            calls.scan(unit, null);
            calls.askDepth();
            new Rules(unit, Trees.instance(task).getSourcePositions(), calls.ofMethods.keySet()).scan(unit, null);
        }
        DUE.end();
    }

    private static void keeps(int rule, String what, boolean kept) {
        DUE.text("rule " + rule + ", " + what + ": true", "rule " + rule + ", " + what + ": " + kept);
    }

    private static void topOfTheFile(CompilationUnitTree unit) {
        keeps(1, "no package line", unit.getPackage() == null);
        keeps(1, "one class at the top", unit.getTypeDecls().size() == 1);
        for (ImportTree one : unit.getImports()) {
            String name = one.getQualifiedIdentifier().toString();
            keeps(4, "import " + name, !one.isStatic() && IMPORTS.contains(name));
        }
    }

    /** Which methods of the class each one calls; their names tell them apart. */
    private static final class Calls extends TreeScanner<Void, Void> {
        private final Map<String, Set<String>> ofMethods = new TreeMap<>();
        private String inside = "";

        @Override
        public Void visitMethod(MethodTree method, Void unused) {
            inside = method.getName().toString();
            // Those of constructors are put together: none of the class's methods is called there.
            boolean isNew = ofMethods.put(inside, new TreeSet<>()) == null;
            keeps(1, "one method alone bears the name " + inside, isNew || inside.equals("<init>"));
            super.visitMethod(method, unused);
            inside = "";
            return null;
        }

        @Override
        public Void visitMethodInvocation(MethodInvocationTree call, Void unused) {
            String name = call.getMethodSelect().toString();
            if (!inside.isEmpty()) {
                ofMethods.get(inside).add(name.substring(name.lastIndexOf('.') + 1));
            }
            return super.visitMethodInvocation(call, unused);
        }

        private void askDepth() {
            for (String method : ofMethods.keySet()) {
                keeps(11, "calls from " + method + " stay so deep", depthOf(method, 1) <= MOST_DEEP);
            }
        }

        private int depthOf(String method, int level) {
            int deepest = level;
            // A method that calls itself, by however many others, goes beyond the bound.
            if (level <= MOST_DEEP) {
                for (String called : ofMethods.getOrDefault(method, Set.of())) {
                    if (ofMethods.containsKey(called)) {
                        deepest = Math.max(deepest, depthOf(called, level + 1));
                    }
                }
            }
            return deepest;
        }
    }

    private static final class Rules extends TreeScanner<Void, Void> {
        private final CompilationUnitTree unit;
        private final SourcePositions positions;
        private final Set<String> own;
        private String method = "";
        private int classes;
        private int loops;

        private Rules(CompilationUnitTree unit, SourcePositions positions, Set<String> own) {
            this.unit = unit;
            this.positions = positions;
            this.own = own;
        }

        private long lineOf(long position) {
            return unit.getLineMap().getLineNumber(position);
        }

        private String at(Tree tree) {
            return "line " + lineOf(positions.getStartPosition(unit, tree));
        }

        private Void never(int rule, String what, Tree tree) {
            keeps(rule, at(tree) + ", no " + what, false);
            return null;
        }

        @Override
        public Void visitClass(ClassTree one, Void unused) {
            classes++;
            keeps(11, "so many classes", classes <= MOST_CLASSES);
            keeps(2, at(one) + ", no class inside a method", method.isEmpty());
            boolean isNested = classes > 1;
            keeps(1, at(one) + ", static if inside", !isNested || one.getModifiers().getFlags().contains(Modifier.STATIC));
            int fields = 0;
            for (Tree member : one.getMembers()) {
                keeps(5, at(member) + ", no initialiser block", !(member instanceof BlockTree));
                if (member instanceof VariableTree field) {
                    fields += askField(field) ? 0 : 1;
                }
            }
            keeps(11, at(one) + ", so many fields", fields <= MOST_FIELDS);
            return super.visitClass(one, unused);
        }

        private boolean askField(VariableTree field) {
            Set<Modifier> flags = field.getModifiers().getFlags();
            boolean isConstant = flags.contains(Modifier.STATIC);
            if (isConstant) {
                keeps(5, at(field) + ", final", flags.contains(Modifier.FINAL));
                keeps(5, at(field) + ", of a plain type", STATIC_TYPES.contains(field.getType().toString()));
            }
            return isConstant;
        }

        @Override
        public Void visitMethod(MethodTree one, Void unused) {
            method = one.getName().toString();
            keeps(11, method + ", so many parameters", one.getParameters().size() <= MOST_PARAMETERS);
            long lines = lineOf(positions.getEndPosition(unit, one)) - lineOf(positions.getStartPosition(unit, one)) + 1;
            keeps(11, method + ", so many lines", lines <= MOST_LINES);
            super.visitMethod(one, unused);
            method = "";
            return null;
        }

        @Override
        public Void visitMethodInvocation(MethodInvocationTree call, Void unused) {
            String name = call.getMethodSelect().toString();
            boolean isOwn = own.contains(name.substring(name.lastIndexOf('.') + 1));
            keeps(4, at(call) + ", " + name, isOwn || LIBRARY.contains(name));
            return super.visitMethodInvocation(call, unused);
        }

        @Override
        public Void visitNewClass(NewClassTree made, Void unused) {
            keeps(12, at(made) + ", made by a call that makes a thing", loops == 0 && (method.isEmpty() || MAKERS.contains(method)));
            return super.visitNewClass(made, unused);
        }

        @Override
        public Void visitNewArray(NewArrayTree made, Void unused) {
            keeps(12, at(made) + ", made with its object", method.isEmpty());
            return super.visitNewArray(made, unused);
        }

        @Override
        public Void visitForLoop(ForLoopTree loop, Void unused) {
            keeps(9, at(loop) + ", has an end", loop.getCondition() != null && !loop.getUpdate().isEmpty());
            loops++;
            super.visitForLoop(loop, unused);
            loops--;
            return null;
        }

        @Override
        public Void visitEnhancedForLoop(EnhancedForLoopTree loop, Void unused) {
            loops++;
            super.visitEnhancedForLoop(loop, unused);
            loops--;
            return null;
        }

        @Override
        public Void visitBinary(BinaryTree term, Void unused) {
            if (term.getKind() == Tree.Kind.DIVIDE || term.getKind() == Tree.Kind.REMAINDER) {
                keeps(7, at(term) + ", by the one constant that divides", term.getRightOperand().toString().equals("ROWS"));
            }
            return super.visitBinary(term, unused);
        }

        @Override
        public Void visitCompoundAssignment(CompoundAssignmentTree term, Void unused) {
            boolean divides = List.of(Tree.Kind.DIVIDE_ASSIGNMENT, Tree.Kind.REMAINDER_ASSIGNMENT).contains(term.getKind());
            keeps(7, at(term) + ", no division", !divides);
            return super.visitCompoundAssignment(term, unused);
        }

        @Override
        public Void visitTypeCast(TypeCastTree cast, Void unused) {
            keeps(6, at(cast) + ", a cast of numbers", CASTS.contains(cast.getType().toString()));
            return super.visitTypeCast(cast, unused);
        }

        @Override
        public Void visitLambdaExpression(LambdaExpressionTree tree, Void unused) {
            return never(2, "lambda", tree);
        }

        @Override
        public Void visitMemberReference(MemberReferenceTree tree, Void unused) {
            return never(2, "method reference", tree);
        }

        @Override
        public Void visitThrow(ThrowTree tree, Void unused) {
            return never(6, "throw, since the document names no exception", tree);
        }

        @Override
        public Void visitTry(TryTree tree, Void unused) {
            return never(6, "try, since nothing is thrown", tree);
        }

        @Override
        public Void visitSynchronized(SynchronizedTree tree, Void unused) {
            return never(6, "synchronized", tree);
        }

        @Override
        public Void visitAssert(AssertTree tree, Void unused) {
            return never(6, "assert", tree);
        }

        @Override
        public Void visitWhileLoop(WhileLoopTree tree, Void unused) {
            return never(9, "while, since counters are enough", tree);
        }

        @Override
        public Void visitDoWhileLoop(DoWhileLoopTree tree, Void unused) {
            return never(9, "do, since counters are enough", tree);
        }
    }
}
