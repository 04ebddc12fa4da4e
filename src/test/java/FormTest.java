import com.sun.source.tree.AnnotationTree;
import com.sun.source.tree.ArrayAccessTree;
import com.sun.source.tree.AssertTree;
import com.sun.source.tree.AssignmentTree;
import com.sun.source.tree.BinaryTree;
import com.sun.source.tree.BlockTree;
import com.sun.source.tree.ClassTree;
import com.sun.source.tree.CompilationUnitTree;
import com.sun.source.tree.CompoundAssignmentTree;
import com.sun.source.tree.DoWhileLoopTree;
import com.sun.source.tree.ExpressionStatementTree;
import com.sun.source.tree.ExpressionTree;
import com.sun.source.tree.ForLoopTree;
import com.sun.source.tree.IdentifierTree;
import com.sun.source.tree.LambdaExpressionTree;
import com.sun.source.tree.LiteralTree;
import com.sun.source.tree.MemberReferenceTree;
import com.sun.source.tree.MethodInvocationTree;
import com.sun.source.tree.MethodTree;
import com.sun.source.tree.NewArrayTree;
import com.sun.source.tree.NewClassTree;
import com.sun.source.tree.SynchronizedTree;
import com.sun.source.tree.ThrowTree;
import com.sun.source.tree.Tree;
import com.sun.source.tree.TryTree;
import com.sun.source.tree.TypeCastTree;
import com.sun.source.tree.UnaryTree;
import com.sun.source.tree.VariableTree;
import com.sun.source.tree.WhileLoopTree;
import com.sun.source.util.JavacTask;
import com.sun.source.util.TreePath;
import com.sun.source.util.TreePathScanner;
import com.sun.source.util.Trees;
import java.io.IOException;
import java.net.URI;
import java.nio.file.Files;
import java.nio.file.Path;
import java.util.ArrayList;
import java.util.HashMap;
import java.util.HashSet;
import java.util.List;
import java.util.Map;
import java.util.Set;
import java.util.TreeSet;
import java.util.regex.Pattern;
import javax.lang.model.element.Element;
import javax.lang.model.element.ElementKind;
import javax.lang.model.element.Modifier;
import javax.lang.model.element.TypeElement;
import javax.lang.model.element.VariableElement;
import javax.lang.model.type.ArrayType;
import javax.lang.model.type.DeclaredType;
import javax.lang.model.type.TypeKind;
import javax.lang.model.type.TypeMirror;
import javax.tools.JavaFileObject;
import javax.tools.SimpleJavaFileObject;
import javax.tools.ToolProvider;

/**
 * Those rules of LANGUAGE.md that the program's form shows, by the compiler's own trees. It is narrower
 * than the rules where the program is: no lists, no texts, no while, no recursion, and no call makes
 * anything. That it sees what it is for is tried on small programs that each break one rule.
 */
public final class FormTest extends Checks {
    private static final int MOST_LINES = 60, MOST_PARAMETERS = 7, MOST_DEEP = 8, MOST_CLASSES = 12, MOST_FIELDS = 20;
    private static final Set<String> LIBRARY = Set.of("System.arraycopy", "Arrays.fill", "Arrays.copyOf",
            "Arrays.copyOfRange", "Math.min", "Math.max", "Math.abs", "Math.floorDiv", "Math.floorMod",
            "Integer.bitCount", "Long.bitCount", "Integer.compare", "Long.compare", "Object.<init>");
    private static final Set<Tree.Kind> COMPARISONS = Set.of(Tree.Kind.LESS_THAN, Tree.Kind.LESS_THAN_EQUAL,
            Tree.Kind.GREATER_THAN, Tree.Kind.GREATER_THAN_EQUAL);
    private static final Set<Tree.Kind> DIVISIONS = Set.of(Tree.Kind.DIVIDE, Tree.Kind.REMAINDER,
            Tree.Kind.DIVIDE_ASSIGNMENT, Tree.Kind.REMAINDER_ASSIGNMENT);
    private static final Set<Tree.Kind> STEPS = Set.of(Tree.Kind.POSTFIX_INCREMENT, Tree.Kind.PREFIX_INCREMENT,
            Tree.Kind.POSTFIX_DECREMENT, Tree.Kind.PREFIX_DECREMENT);

    /** One program, as a text that the compiler reads. */
    private static final class Program extends SimpleJavaFileObject {
        private final String code;

        Program(String name, String code) {
            super(URI.create("string:///" + name + ".java"), Kind.SOURCE);
            this.code = code;
        }

        @Override
        public CharSequence getCharContent(boolean ignoreErrors) {
            return code;
        }
    }

    /** Walks over one program and gathers which rules it breaks, and where. */
    private static final class Walk extends TreePathScanner<Void, Void> {
        private final Trees trees;
        private final CompilationUnitTree unit;
        private final Set<String> broken = new TreeSet<>();
        private final Map<Element, Set<Element>> callees = new HashMap<>();
        private int classes = 0;

        Walk(Trees trees, CompilationUnitTree unit) {
            this.trees = trees;
            this.unit = unit;
        }

        private void breaks(String rule, Tree at) {
            long line = unit.getLineMap().getLineNumber(trees.getSourcePositions().getStartPosition(unit, at));
            broken.add(rule + ", line " + line + ": " + at.toString().strip().split("\n")[0]);
        }

        private Element elementOf(Tree tree) {
            return trees.getElement(TreePath.getPath(unit, tree));
        }

        private TypeMirror typeOf(Tree tree) {
            return trees.getTypeMirror(TreePath.getPath(unit, tree));
        }

        private boolean isOwn(Element element) {
            for (Element at = element; at != null; at = at.getEnclosingElement()) {
                if (at instanceof TypeElement && trees.getPath(at) != null) {
                    return true;
                }
            }
            return false;
        }

        /** The method or constructor in which the walk is; null in a field's initialiser. */
        private MethodTree method() {
            for (TreePath at = getCurrentPath(); at != null; at = at.getParentPath()) {
                if (at.getLeaf() instanceof MethodTree method) {
                    return method;
                }
            }
            return null;
        }

        // ---- classes and members

        @Override
        public Void visitClass(ClassTree tree, Void none) {
            classes++;
            TreePath above = getCurrentPath().getParentPath();
            boolean isTop = above.getLeaf() instanceof CompilationUnitTree;
            boolean isInside = above.getLeaf() instanceof ClassTree
                    && above.getParentPath().getLeaf() instanceof CompilationUnitTree;
            if (!isTop && !isInside) {
                breaks("2: a local, anonymous or deeper class", tree);
            } else if (isInside && !elementOf(tree).getModifiers().contains(Modifier.STATIC)) {
                breaks("2: an inner class that is not static", tree);
            }
            int fields = 0;
            for (Tree member : tree.getMembers()) {
                if (member instanceof BlockTree block && block.isStatic()) {
                    breaks("5: a static initialiser", tree);
                }
                if (member instanceof VariableTree && !elementOf(member).getModifiers().contains(Modifier.STATIC)) {
                    fields++;
                }
            }
            if (fields > MOST_FIELDS) {
                breaks("11: " + fields + " fields", tree);
            }
            return super.visitClass(tree, none);
        }

        @Override
        public Void visitMethod(MethodTree tree, Void none) {
            callees.computeIfAbsent(elementOf(tree), made -> new HashSet<>());
            long start = trees.getSourcePositions().getStartPosition(unit, tree);
            long end = trees.getSourcePositions().getEndPosition(unit, tree);
            if (end > start && unit.getLineMap().getLineNumber(end) - unit.getLineMap().getLineNumber(start) >= MOST_LINES) {
                breaks("11: a long method", tree);
            }
            if (tree.getParameters().size() > MOST_PARAMETERS) {
                breaks("11: many parameters", tree);
            }
            return super.visitMethod(tree, none);
        }

        @Override
        public Void visitVariable(VariableTree tree, Void none) {
            if (!isAllowed(typeOf(tree), true)) {
                breaks("3: a type", tree);
            }
            VariableElement element = (VariableElement) elementOf(tree);
            if (element.getKind() == ElementKind.FIELD && element.getModifiers().contains(Modifier.STATIC)) {
                boolean isWrittenOut = tree.getInitializer() instanceof NewArrayTree made && made.getInitializers() != null;
                boolean isFinal = element.getModifiers().contains(Modifier.FINAL);
                if (!isFinal || element.getConstantValue() == null && !isWrittenOut) {
                    breaks("5: a static field that is no constant", tree);
                }
            }
            return super.visitVariable(tree, none);
        }

        private boolean isAllowed(TypeMirror type, boolean mayBeArray) {
            if (type.getKind().isPrimitive()) {
                return type.getKind() != TypeKind.DOUBLE && type.getKind() != TypeKind.FLOAT;
            }
            if (type instanceof ArrayType array) {
                return mayBeArray && isAllowed(array.getComponentType(), false);
            }
            return type instanceof DeclaredType declared && isOwn(declared.asElement());
        }

        // ---- what may not stand at all

        @Override
        public Void visitLambdaExpression(LambdaExpressionTree tree, Void none) {
            breaks("2: a lambda", tree);
            return super.visitLambdaExpression(tree, none);
        }

        @Override
        public Void visitMemberReference(MemberReferenceTree tree, Void none) {
            breaks("2: a method reference", tree);
            return super.visitMemberReference(tree, none);
        }

        @Override
        public Void visitAnnotation(AnnotationTree tree, Void none) {
            breaks("3: an annotation", tree);
            return super.visitAnnotation(tree, none);
        }

        @Override
        public Void visitThrow(ThrowTree tree, Void none) {
            breaks("6: throw", tree);
            return super.visitThrow(tree, none);
        }

        @Override
        public Void visitTry(TryTree tree, Void none) {
            breaks("6: try", tree);
            return super.visitTry(tree, none);
        }

        @Override
        public Void visitSynchronized(SynchronizedTree tree, Void none) {
            breaks("6: synchronized", tree);
            return super.visitSynchronized(tree, none);
        }

        @Override
        public Void visitAssert(AssertTree tree, Void none) {
            breaks("6: assert", tree);
            return super.visitAssert(tree, none);
        }

        @Override
        public Void visitTypeCast(TypeCastTree tree, Void none) {
            if (!typeOf(tree.getType()).getKind().isPrimitive()) {
                breaks("6: a cast of an object", tree);
            }
            return super.visitTypeCast(tree, none);
        }

        @Override
        public Void visitLiteral(LiteralTree tree, Void none) {
            if (tree.getKind() == Tree.Kind.NULL_LITERAL) {
                breaks("7: null", tree);
            }
            if (tree.getKind() == Tree.Kind.STRING_LITERAL) {
                breaks("3: a text", tree);
            }
            return super.visitLiteral(tree, none);
        }

        // ---- what is changed and divided

        private void isNotConstant(ExpressionTree target) {
            if (target instanceof ArrayAccessTree access) {
                Element array = elementOf(access.getExpression());
                if (array != null && array.getModifiers().contains(Modifier.STATIC)) {
                    breaks("5: a constant array is changed", target);
                }
            }
        }

        @Override
        public Void visitAssignment(AssignmentTree tree, Void none) {
            isNotConstant(tree.getVariable());
            return super.visitAssignment(tree, none);
        }

        @Override
        public Void visitCompoundAssignment(CompoundAssignmentTree tree, Void none) {
            isNotConstant(tree.getVariable());
            if (DIVISIONS.contains(tree.getKind())) {
                isTested(tree.getExpression());
            }
            return super.visitCompoundAssignment(tree, none);
        }

        @Override
        public Void visitUnary(UnaryTree tree, Void none) {
            if (STEPS.contains(tree.getKind())) {
                isNotConstant(tree.getExpression());
            }
            return super.visitUnary(tree, none);
        }

        @Override
        public Void visitBinary(BinaryTree tree, Void none) {
            if (DIVISIONS.contains(tree.getKind())) {
                isTested(tree.getRightOperand());
            }
            return super.visitBinary(tree, none);
        }

        /** A divisor is a constant, or a variable that the method has looked at ahead of it, against 0. */
        private void isTested(ExpressionTree divisor) {
            String text = divisor.toString();
            boolean isConstant = text.matches("[1-9][0-9]*L?|[A-Z_]+|\\([A-Z_]+ \\+ [1-9]\\)");
            MethodTree method = method();
            boolean isLookedAt = false;
            if (method != null && divisor instanceof IdentifierTree) {
                long start = trees.getSourcePositions().getStartPosition(unit, method);
                long end = trees.getSourcePositions().getStartPosition(unit, divisor);
                String ahead = codeOf(start, end);
                isLookedAt = Pattern.compile("\\b" + text + " (!=|>|==) 0\\b").matcher(ahead).find();
            }
            if (!isConstant && !isLookedAt) {
                breaks("7: a divisor that is not looked at", divisor);
            }
        }

        private String codeOf(long start, long end) {
            try {
                return unit.getSourceFile().getCharContent(true).subSequence((int) start, (int) end).toString();
            } catch (IOException unread) {
                return "";
            }
        }

        // ---- loops

        @Override
        public Void visitWhileLoop(WhileLoopTree tree, Void none) {
            breaks("9: a while", tree);
            return super.visitWhileLoop(tree, none);
        }

        @Override
        public Void visitDoWhileLoop(DoWhileLoopTree tree, Void none) {
            breaks("9: a do", tree);
            return super.visitDoWhileLoop(tree, none);
        }

        @Override
        public Void visitForLoop(ForLoopTree tree, Void none) {
            if (tree.getInitializer().size() != 1 || !(tree.getInitializer().get(0) instanceof VariableTree counter)
                    || !stepsOn(tree, counter.getName().toString())
                    || !isBound(tree.getCondition(), counter.getName().toString())
                    || isSet(tree.getStatement(), elementOf(counter))) {
                breaks("9: a loop without a counter against a bound", tree);
            }
            return super.visitForLoop(tree, none);
        }

        private boolean stepsOn(ForLoopTree tree, String counter) {
            if (tree.getUpdate().size() != 1) {
                return false;
            }
            ExpressionStatementTree update = tree.getUpdate().get(0);
            return update.getExpression() instanceof UnaryTree step && STEPS.contains(step.getKind())
                    && step.getExpression().toString().equals(counter);
        }

        /** The counter is compared in the condition, by itself or ahead of an &&. */
        private boolean isBound(ExpressionTree condition, String counter) {
            if (!(condition instanceof BinaryTree binary)) {
                return false;
            }
            if (binary.getKind() == Tree.Kind.CONDITIONAL_AND) {
                return isBound(binary.getLeftOperand(), counter);
            }
            return COMPARISONS.contains(binary.getKind()) && binary.getLeftOperand().toString().equals(counter);
        }

        private boolean isSet(Tree body, Element counter) {
            boolean[] found = {false};
            new TreePathScanner<Void, Void>() {
                private void look(ExpressionTree target) {
                    found[0] |= counter.equals(elementOf(target));
                }

                @Override
                public Void visitAssignment(AssignmentTree tree, Void none) {
                    look(tree.getVariable());
                    return super.visitAssignment(tree, none);
                }

                @Override
                public Void visitCompoundAssignment(CompoundAssignmentTree tree, Void none) {
                    look(tree.getVariable());
                    return super.visitCompoundAssignment(tree, none);
                }

                @Override
                public Void visitUnary(UnaryTree tree, Void none) {
                    if (STEPS.contains(tree.getKind())) {
                        look(tree.getExpression());
                    }
                    return super.visitUnary(tree, none);
                }
            }.scan(TreePath.getPath(unit, body), null);
            return found[0];
        }

        // ---- calls

        private void calls(Element callee, Tree at) {
            MethodTree caller = method();
            if (!isOwn(callee)) {
                String name = callee.getEnclosingElement().getSimpleName() + "." + callee.getSimpleName();
                if (!LIBRARY.contains(name)) {
                    breaks("4: " + name, at);
                }
            } else if (caller != null) {
                callees.computeIfAbsent(elementOf(caller), made -> new HashSet<>()).add(callee);
            }
        }

        @Override
        public Void visitMethodInvocation(MethodInvocationTree tree, Void none) {
            calls(elementOf(tree), tree);
            return super.visitMethodInvocation(tree, none);
        }

        private void isMadeByConstructor(Tree at) {
            MethodTree method = method();
            if (method != null && !method.getName().contentEquals("<init>")) {
                breaks("12: a call makes something", at);
            }
        }

        @Override
        public Void visitNewClass(NewClassTree tree, Void none) {
            isMadeByConstructor(tree);
            calls(elementOf(tree), tree);
            return super.visitNewClass(tree, none);
        }

        @Override
        public Void visitNewArray(NewArrayTree tree, Void none) {
            isMadeByConstructor(tree);
            return super.visitNewArray(tree, none);
        }

        private int deepest(Element method, List<Element> open) {
            if (open.contains(method)) {
                broken.add("8: recursion: " + method);
                return 0;
            }
            open.add(method);
            int deepest = 0;
            for (Element callee : callees.getOrDefault(method, Set.of())) {
                deepest = Math.max(deepest, deepest(callee, open));
            }
            open.remove(open.size() - 1);
            return deepest + 1;
        }

        Set<String> walked() {
            if (unit.getPackage() != null) {
                breaks("1: a package", unit.getPackage());
            }
            scan(unit, null);
            for (Element method : callees.keySet()) {
                int deep = deepest(method, new ArrayList<>());
                if (deep > MOST_DEEP) {
                    broken.add("11: calls go " + deep + " deep from " + method);
                }
            }
            if (classes > MOST_CLASSES) {
                broken.add("11: " + classes + " classes");
            }
            return broken;
        }
    }

    private static Set<String> broken(String name, String code) throws IOException {
        JavacTask task = (JavacTask) ToolProvider.getSystemJavaCompiler().getTask(null, null, told -> {
            if (told.getKind() == javax.tools.Diagnostic.Kind.ERROR) {
                wrong("does not compile: " + told);
            }
        }, List.of("--release", "17", "-proc:none"), null, List.<JavaFileObject>of(new Program(name, code)));
        CompilationUnitTree unit = task.parse().iterator().next();
        task.analyze();
        return new Walk(Trees.instance(task), unit).walked();
    }

    private static void sees(String rule, String members) throws IOException {
        Set<String> broken = broken("Small", "final class Small {\n" + members + "\n}\n");
        boolean isSeen = rule.isEmpty() && broken.isEmpty();
        for (String line : broken) {
            isSeen |= line.startsWith(rule + ":");
        }
        if (!isSeen) {
            wrong("FormTest does not see it so: rule '" + rule + "' of " + members + ", but " + broken);
        }
    }

    private static void seesWhatItIsFor() throws IOException {
        says("LANGUAGE.md, tried on small programs");
        sees("", "int a(int b) { int c = 0; for (int i = 0; i < 9 && c < b; i++) { c += Math.max(i, 2) / 3; } return c; }");
        sees("", "private static final int[] A = {1, 2}; private final int[] b = new int[4]; static final class In { int c; }");
        sees("", "int a(int b) { if (b == 0) { return 0; } return 7 % b; }");
        sees("2", "Runnable a() { return () -> { }; }");
        sees("2", "class In { }");
        sees("2", "static class In { static class Deep { } }");
        sees("2", "void a() { class In { } }");
        sees("3", "double a;");
        sees("3", "String a;");
        sees("3", "int[][] a;");
        sees("3", "@Override public final boolean equals(Object o) { return true; }");
        sees("4", "int a() { return Math.addExact(1, 2); }");
        sees("4", "long a() { return System.nanoTime(); }");
        sees("4", "int a() { return hashCode(); }");
        sees("5", "static int a = 1;");
        sees("5", "private static final int[] A = new int[4];");
        sees("5", "private static final int[] A = {1}; void a() { A[0]++; }");
        sees("5", "private static final int[] A = {1}; void a() { A[0] = 2; }");
        sees("5", "static { }");
        sees("6", "void a() { throw null; }");
        sees("6", "void a() { try { a(); } finally { } }");
        sees("6", "synchronized void b() { synchronized (this) { } }");
        sees("6", "void a() { assert true; }");
        sees("6", "void a(Small b) { Small c = (Small) b; }");
        sees("7", "Small a() { return null; }");
        sees("7", "int a(int b) { return 7 / b; }");
        sees("7", "int a(int b) { b %= b; return b; }");
        sees("7", "int a(int b) { int c = 7 / b; return b == 0 ? c : 0; }");
        sees("8", "int a() { return b(); } int b() { return a(); }");
        sees("9", "void a() { while (true) { } }");
        sees("9", "void a() { do { } while (true); }");
        sees("9", "void a() { for (;;) { } }");
        sees("9", "void a() { for (int i = 0; i < 9; i++) { i--; } }");
        sees("9", "void a(int b) { for (int i = 0; i < 9 || b > 0; i++) { } }");
        sees("9", "void a(int b) { for (int i = 0; b < 9; i++) { } }");
        sees("11", "void a(int b, int c, int d, int e, int f, int g, int h, int i) { }");
        sees("11", "void a() {" + "\n".repeat(MOST_LINES) + "}");
        sees("11", "int a, b, c, d, e, f, g, h, i, j, k, l, m, n, o, p, q, r, s, t, u;");
        sees("11", "void a() { b(); } void b() { c(); } void c() { d(); } void d() { e(); } void e() { f(); }"
                + "void f() { g(); } void g() { h(); } void h() { i(); } void i() { }");
        sees("12", "int[] a() { return new int[1]; }");
        sees("12", "Small a() { return new Small(); }");
    }

    public static void main(String[] args) throws IOException {
        seesWhatItIsFor();
        says("LANGUAGE.md");
        for (String line : broken("WireFamily", Files.readString(Path.of("src/main/java/WireFamily.java")))) {
            wrong(line);
        }
        end();
    }
}
