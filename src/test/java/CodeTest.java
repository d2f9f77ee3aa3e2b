import com.sun.source.tree.AssignmentTree;
import com.sun.source.tree.BinaryTree;
import com.sun.source.tree.BlockTree;
import com.sun.source.tree.CatchTree;
import com.sun.source.tree.ClassTree;
import com.sun.source.tree.CompilationUnitTree;
import com.sun.source.tree.CompoundAssignmentTree;
import com.sun.source.tree.DoWhileLoopTree;
import com.sun.source.tree.EnhancedForLoopTree;
import com.sun.source.tree.ExpressionTree;
import com.sun.source.tree.ForLoopTree;
import com.sun.source.tree.IdentifierTree;
import com.sun.source.tree.InstanceOfTree;
import com.sun.source.tree.LambdaExpressionTree;
import com.sun.source.tree.LiteralTree;
import com.sun.source.tree.MemberReferenceTree;
import com.sun.source.tree.MemberSelectTree;
import com.sun.source.tree.MethodInvocationTree;
import com.sun.source.tree.MethodTree;
import com.sun.source.tree.NewArrayTree;
import com.sun.source.tree.NewClassTree;
import com.sun.source.tree.ParenthesizedTree;
import com.sun.source.tree.StatementTree;
import com.sun.source.tree.ThrowTree;
import com.sun.source.tree.Tree;
import com.sun.source.tree.TryTree;
import com.sun.source.tree.TypeCastTree;
import com.sun.source.tree.UnaryTree;
import com.sun.source.tree.VariableTree;
import com.sun.source.tree.WhileLoopTree;
import com.sun.source.util.JavacTask;
import com.sun.source.util.TreePath;
import com.sun.source.util.TreePathScanner;
import com.sun.source.util.TreeScanner;
import com.sun.source.util.Trees;
import java.io.IOException;
import java.io.StringWriter;
import java.net.URI;
import java.nio.file.Files;
import java.nio.file.Path;
import java.util.ArrayList;
import java.util.LinkedHashMap;
import java.util.List;
import java.util.Map;
import java.util.Set;
import java.util.TreeSet;
import javax.lang.model.element.Element;
import javax.lang.model.element.ElementKind;
import javax.lang.model.element.ExecutableElement;
import javax.lang.model.element.Modifier;
import javax.lang.model.element.VariableElement;
import javax.lang.model.type.ArrayType;
import javax.lang.model.type.TypeKind;
import javax.lang.model.type.TypeMirror;
import javax.tools.JavaCompiler;
import javax.tools.SimpleJavaFileObject;
import javax.tools.StandardJavaFileManager;
import javax.tools.ToolProvider;

/**
 * Holds the class against those rules of LANGUAGE.md that need the compiler's own tree of it: who
 * calls whom and how deep, that loops have an end that can be seen, that divisors are looked at,
 * which types there are, what is thrown where, and that no call makes objects in a loop.
 *
 * <p>The test is itself tried with faulty pieces first, each of which must be told. {@code CodeTest ROOT
 * FILE} holds another file against the rules.
 */
public final class CodeTest {
    private static final int MOST_DEEP = 8;
    private static final int MOST_LINES = 60;
    private static final int MOST_PARAMETERS = 7;
    private static final int MOST_CLASSES = 12;
    private static final int MOST_FIELDS = 20;
    private static final Set<String> LIBRARY = Set.of("Math.abs", "Math.max", "Math.min", "Integer.bitCount");
    private static final Set<String> THROWN = Set.of("IllegalStateException", "IllegalArgumentException",
            "IndexOutOfBoundsException", "ArithmeticException", "UnsupportedOperationException",
            "NoSuchElementException", "RuntimeException");
    /** Divisors that are looked at elsewhere: Table.begin lets none below 2 in; a matrix has a row. */
    private static final Set<String> LOOKED_AT_ELSEWHERE = Set.of("clearSquare prime", "clearColumn prime");

    private final List<String> faults = new ArrayList<>();
    private final Map<String, Set<String>> calls = new LinkedHashMap<>();
    private final Set<String> face = new TreeSet<>();
    private Trees trees;
    private CompilationUnitTree unit;
    private int classes = 0;

    public static void main(String[] args) throws IOException {
        Path root = Path.of(args.length > 0 ? args[0] : ".");
        Path file = args.length > 1 ? Path.of(args[1]) : root.resolve("src/main/java/SparseHall.java");
        int untold = tryPieces();
        List<String> faults = faultsOf(source(file), true);
        for (String fault : faults) {
            System.out.println("LANGUAGE.md: " + fault);
        }
        System.out.println("CodeTest: " + untold + " faulty pieces untold, " + faults.size() + " wrong");
        System.exit(untold + faults.size() == 0 ? 0 : 1);
    }

    private static String source(Path file) throws IOException {
        return Files.readString(file);
    }

    private static List<String> faultsOf(String source, boolean needsDepth) throws IOException {
        CodeTest test = new CodeTest();
        JavaCompiler compiler = ToolProvider.getSystemJavaCompiler();
        try (StandardJavaFileManager files = compiler.getStandardFileManager(null, null, null)) {
            StringWriter told = new StringWriter();
            JavacTask task = (JavacTask) compiler.getTask(told, files, null,
                    List.of("--release", "17", "-proc:none"), null, List.of(new Text(source)));
            test.unit = task.parse().iterator().next();
            task.analyze();
            if (told.toString().contains("error:")) {
                test.faults.add("does not compile: " + told);
                return test.faults;
            }
            test.trees = Trees.instance(task);
            test.new Reader().scan(test.unit, null);
        }
        int deepest = test.checkDepth();
        if (needsDepth && deepest < 4) {
            test.faults.add("calls were not found: the deepest is " + deepest);
        }
        if (test.classes > MOST_CLASSES) {
            test.faults.add("rule 11: " + test.classes + " classes");
        }
        return test.faults;
    }

    /** A source that is held in memory. */
    private static final class Text extends SimpleJavaFileObject {
        private final String source;

        Text(String source) {
            super(URI.create("string:///SparseHall.java"), Kind.SOURCE);
            this.source = source;
        }

        @Override
        public CharSequence getCharContent(boolean ignored) {
            return source;
        }
    }

    // ---- who calls whom

    /** Goes down from each call of the face, which is itself the first one that is open. */
    private int checkDepth() {
        int deepest = 0;
        for (String from : face) {
            deepest = Math.max(deepest, depthOf(from, new ArrayList<>()));
        }
        return deepest;
    }

    private int depthOf(String from, List<String> open) {
        if (open.contains(from)) {
            faults.add("rule 8: calls itself: " + open + " and again " + from);
            return 0;
        }
        open.add(from);
        if (open.size() > MOST_DEEP) {
            faults.add("rule 11: deeper than " + MOST_DEEP + ": " + open);
            open.remove(open.size() - 1);
            return 1;
        }
        int below = 0;
        for (String called : calls.getOrDefault(from, Set.of())) {
            below = Math.max(below, depthOf(called, open));
        }
        open.remove(open.size() - 1);
        return below + 1;
    }

    // ---- reading the tree

    /** Goes over the whole tree once. */
    private final class Reader extends TreePathScanner<Void, Void> {
        private MethodTree method = null;
        private String name = "";
        private int loops = 0;

        private void fault(Tree at, String what) {
            long line = unit.getLineMap().getLineNumber(
                    trees.getSourcePositions().getStartPosition(unit, at));
            faults.add(what + ", line " + line + ": " + at.toString().lines().findFirst().orElse(""));
        }

        private Element elementOf(Tree tree) {
            return trees.getElement(new TreePath(getCurrentPath(), tree));
        }

        private String nameOf(Element element) {
            return element.getEnclosingElement().getSimpleName() + "." + element;
        }

        @Override
        public Void visitClass(ClassTree tree, Void nothing) {
            classes++;
            boolean isOuter = getCurrentPath().getParentPath().getLeaf() == unit;
            Set<Modifier> modifiers = tree.getModifiers().getFlags();
            Element element = trees.getElement(getCurrentPath());
            if (element.getEnclosingElement() instanceof ExecutableElement) {
                fault(tree, "rule 2: a class in a method");
            } else if (!isOuter && (!modifiers.contains(Modifier.STATIC) || modifiers.contains(Modifier.PUBLIC)
                    || modifiers.contains(Modifier.PROTECTED))) {
                fault(tree, "rule 1: a class inside");
            } else if (isOuter && !modifiers.equals(Set.of(Modifier.PUBLIC, Modifier.FINAL))) {
                fault(tree, "rule 1: the class of the document");
            }
            int fields = 0;
            for (Tree member : tree.getMembers()) {
                boolean isField = member instanceof VariableTree;
                fields += isField && !((VariableTree) member).getModifiers().getFlags().contains(Modifier.STATIC) ? 1 : 0;
                if (member instanceof BlockTree) {
                    fault(member, "rule 5: an initialiser block");
                }
            }
            if (fields > MOST_FIELDS) {
                fault(tree, "rule 11: " + fields + " fields");
            }
            return super.visitClass(tree, nothing);
        }

        @Override
        public Void visitMethod(MethodTree tree, Void nothing) {
            MethodTree outerMethod = method;
            String outerName = name;
            int outerLoops = loops;
            ExecutableElement element = (ExecutableElement) trees.getElement(getCurrentPath());
            method = tree;
            name = nameOf(element);
            loops = 0;
            calls.putIfAbsent(name, new TreeSet<>());
            if (element.getModifiers().contains(Modifier.PUBLIC)) {
                face.add(name);
            }
            checkType(tree, element.getReturnType());
            checkMethod(tree, element);
            super.visitMethod(tree, nothing);
            method = outerMethod;
            name = outerName;
            loops = outerLoops;
            return null;
        }

        private void checkMethod(MethodTree tree, ExecutableElement element) {
            boolean isOuter = element.getEnclosingElement().getSimpleName().contentEquals("SparseHall");
            boolean isOpen = element.getModifiers().contains(Modifier.PUBLIC);
            if (isOuter && !isOpen && !element.getModifiers().contains(Modifier.PRIVATE)) {
                fault(tree, "rule 1: neither public nor private");
            }
            if (element.getParameters().size() > MOST_PARAMETERS) {
                fault(tree, "rule 11: too many parameters");
            }
            long from = trees.getSourcePositions().getStartPosition(unit, tree);
            long to = trees.getSourcePositions().getEndPosition(unit, tree);
            long lines = unit.getLineMap().getLineNumber(to) - unit.getLineMap().getLineNumber(from) + 1;
            if (lines > MOST_LINES) {
                fault(tree, "rule 11: " + lines + " lines");
            }
            for (Modifier modifier : element.getModifiers()) {
                if (modifier == Modifier.SYNCHRONIZED || modifier == Modifier.NATIVE) {
                    fault(tree, "rule 6: " + modifier);
                }
            }
        }

        @Override
        public Void visitVariable(VariableTree tree, Void nothing) {
            VariableElement element = (VariableElement) trees.getElement(getCurrentPath());
            checkType(tree, element.asType());
            boolean isField = element.getKind() == ElementKind.FIELD;
            if (isField && element.getModifiers().contains(Modifier.STATIC)
                    && !element.getModifiers().contains(Modifier.FINAL)) {
                fault(tree, "rule 5: a static field that changes");
            }
            boolean isOuter = element.getEnclosingElement().getSimpleName().contentEquals("SparseHall");
            if (isField && isOuter && !element.getModifiers().contains(Modifier.PRIVATE)) {
                fault(tree, "rule 1: a field that can be seen");
            }
            return super.visitVariable(tree, nothing);
        }

        /** Numbers, arrays of them of at most two dimensions, own classes and arrays of these. */
        private void checkType(Tree tree, TypeMirror type) {
            int dimensions = 0;
            TypeMirror inner = type;
            while (inner.getKind() == TypeKind.ARRAY) {
                inner = ((ArrayType) inner).getComponentType();
                dimensions++;
            }
            boolean isOwn = inner.getKind() == TypeKind.DECLARED && inner.toString().startsWith("SparseHall");
            boolean isKnown = inner.getKind().isPrimitive() || inner.getKind() == TypeKind.VOID || isOwn;
            if (!isKnown || dimensions > (isOwn ? 1 : 2)) {
                fault(tree, "rule 3: " + type);
            }
        }

        @Override
        public Void visitMethodInvocation(MethodInvocationTree tree, Void nothing) {
            ExecutableElement called = (ExecutableElement) elementOf(tree.getMethodSelect());
            if (called.getKind() == ElementKind.CONSTRUCTOR) {
                return super.visitMethodInvocation(tree, nothing);
            }
            String owner = called.getEnclosingElement().toString();
            if (!owner.startsWith("SparseHall")
                    && !LIBRARY.contains(called.getEnclosingElement().getSimpleName() + "." + called.getSimpleName())) {
                fault(tree, "rule 4: " + owner + "." + called.getSimpleName());
            }
            if (!name.isEmpty()) {
                calls.get(name).add(nameOf(called));
            }
            return super.visitMethodInvocation(tree, nothing);
        }

        @Override
        public Void visitNewClass(NewClassTree tree, Void nothing) {
            if (loops > 0) {
                fault(tree, "rule 12: an object in a loop");
            }
            if (tree.getClassBody() != null) {
                fault(tree, "rule 2: a class without a name");
            }
            Element made = elementOf(tree.getIdentifier());
            boolean isThrown = getCurrentPath().getParentPath().getLeaf() instanceof ThrowTree;
            if (!made.toString().startsWith("SparseHall") && !isThrown) {
                fault(tree, "rule 4: " + made);
            }
            Element constructor = trees.getElement(getCurrentPath());
            if (!name.isEmpty() && made.toString().startsWith("SparseHall")) {
                calls.get(name).add(nameOf(constructor));
            }
            return super.visitNewClass(tree, nothing);
        }

        @Override
        public Void visitNewArray(NewArrayTree tree, Void nothing) {
            if (method != null) {
                fault(tree, "the room: a row that a call makes");
            }
            for (ExpressionTree length : tree.getDimensions()) {
                if (!(constantOf(length) instanceof Number)) {
                    fault(tree, "rule 7: a length that is no constant");
                }
            }
            return super.visitNewArray(tree, nothing);
        }

        // ---- what is thrown

        @Override
        public Void visitThrow(ThrowTree tree, Void nothing) {
            boolean isMade = tree.getExpression() instanceof NewClassTree;
            if (!isMade || !THROWN.contains(((NewClassTree) tree.getExpression()).getIdentifier().toString())) {
                fault(tree, "rule 6: thrown");
            } else {
                for (ExpressionTree argument : ((NewClassTree) tree.getExpression()).getArguments()) {
                    if (!(argument instanceof LiteralTree)) {
                        fault(tree, "rule 6: a text that is not written out");
                    }
                }
            }
            if (method == null || method.getReturnType() == null) {
                fault(tree, "rule 6: thrown in a constructor");
            } else if (!isAnnounced()) {
                fault(tree, "rule 6: not announced");
            }
            return super.visitThrow(tree, nothing);
        }

        /** A public method says what it throws; helpers behind it need not. */
        private boolean isAnnounced() {
            if (!method.getModifiers().getFlags().contains(Modifier.PUBLIC)) {
                return true;
            }
            ThrowTree thrown = (ThrowTree) getCurrentPath().getLeaf();
            String made = ((NewClassTree) thrown.getExpression()).getIdentifier().toString();
            for (ExpressionTree announced : method.getThrows()) {
                if (announced.toString().equals(made)) {
                    return true;
                }
            }
            return false;
        }

        @Override
        public Void visitTry(TryTree tree, Void nothing) {
            fault(tree, "not in this class");
            return super.visitTry(tree, nothing);
        }

        @Override
        public Void visitCatch(CatchTree tree, Void nothing) {
            fault(tree, "not in this class");
            return super.visitCatch(tree, nothing);
        }

        @Override
        public Void visitLambdaExpression(LambdaExpressionTree tree, Void nothing) {
            fault(tree, "rule 2: a lambda");
            return super.visitLambdaExpression(tree, nothing);
        }

        @Override
        public Void visitMemberReference(MemberReferenceTree tree, Void nothing) {
            fault(tree, "rule 2: a method reference");
            return super.visitMemberReference(tree, nothing);
        }

        @Override
        public Void visitInstanceOf(InstanceOfTree tree, Void nothing) {
            fault(tree, "not in this class");
            return super.visitInstanceOf(tree, nothing);
        }

        @Override
        public Void visitTypeCast(TypeCastTree tree, Void nothing) {
            TypeMirror type = trees.getTypeMirror(new TreePath(getCurrentPath(), tree.getType()));
            if (!type.getKind().isPrimitive()) {
                fault(tree, "rule 7: a cast of an object");
            }
            return super.visitTypeCast(tree, nothing);
        }

        // ---- loops

        @Override
        public Void visitForLoop(ForLoopTree tree, Void nothing) {
            checkCounter(tree);
            loops++;
            super.visitForLoop(tree, nothing);
            loops--;
            return null;
        }

        /** A counter goes one step each turn, is looked at each turn, and the body leaves it alone. */
        private void checkCounter(ForLoopTree tree) {
            if (tree.getCondition() == null || tree.getUpdate().size() != 1) {
                fault(tree, "rule 9: a loop without an end");
                return;
            }
            ExpressionTree step = tree.getUpdate().get(0).getExpression();
            boolean isUp = step.getKind() == Tree.Kind.POSTFIX_INCREMENT;
            boolean isDown = step.getKind() == Tree.Kind.POSTFIX_DECREMENT;
            String counter = isUp || isDown ? ((UnaryTree) step).getExpression().toString() : "";
            Set<String> signs = isUp ? Set.of("<", "<=") : Set.of(">", ">=");
            if (counter.isEmpty() || !hasBound(tree.getCondition(), counter, signs)) {
                fault(tree, "rule 9: an end that cannot be seen");
            }
            if (isChanged(tree.getStatement(), counter)) {
                fault(tree, "rule 9: the counter is changed in the loop");
            }
        }

        private boolean hasBound(ExpressionTree condition, String counter, Set<String> signs) {
            ExpressionTree plain = withoutParentheses(condition);
            if (!(plain instanceof BinaryTree)) {
                return false;
            }
            BinaryTree two = (BinaryTree) plain;
            if (two.getKind() == Tree.Kind.CONDITIONAL_AND) {
                return hasBound(two.getLeftOperand(), counter, signs)
                        || hasBound(two.getRightOperand(), counter, signs);
            }
            String left = two.getLeftOperand().toString();
            boolean isCounter = left.equals(counter) || left.equals(counter + " * " + counter);
            return isCounter && signs.contains(signOf(two));
        }

        private boolean isChanged(StatementTree body, String counter) {
            boolean[] found = {false};
            new TreeScanner<Void, Void>() {
                @Override
                public Void visitAssignment(AssignmentTree tree, Void nothing) {
                    found[0] |= tree.getVariable().toString().equals(counter);
                    return super.visitAssignment(tree, nothing);
                }

                @Override
                public Void visitCompoundAssignment(CompoundAssignmentTree tree, Void nothing) {
                    found[0] |= tree.getVariable().toString().equals(counter);
                    return super.visitCompoundAssignment(tree, nothing);
                }

                @Override
                public Void visitUnary(UnaryTree tree, Void nothing) {
                    boolean isStep = tree.getKind().name().endsWith("CREMENT");
                    found[0] |= isStep && tree.getExpression().toString().equals(counter);
                    return super.visitUnary(tree, nothing);
                }
            }.scan(body, null);
            return found[0];
        }

        @Override
        public Void visitWhileLoop(WhileLoopTree tree, Void nothing) {
            fault(tree, "rule 9: a loop without a counter");
            return super.visitWhileLoop(tree, nothing);
        }

        @Override
        public Void visitDoWhileLoop(DoWhileLoopTree tree, Void nothing) {
            fault(tree, "rule 9: a loop without a counter");
            return super.visitDoWhileLoop(tree, nothing);
        }

        @Override
        public Void visitEnhancedForLoop(EnhancedForLoopTree tree, Void nothing) {
            loops++;
            super.visitEnhancedForLoop(tree, nothing);
            loops--;
            return null;
        }

        // ---- divisors

        @Override
        public Void visitBinary(BinaryTree tree, Void nothing) {
            boolean divides = tree.getKind() == Tree.Kind.DIVIDE || tree.getKind() == Tree.Kind.REMAINDER;
            if (divides) {
                checkDivisor(tree, tree.getRightOperand());
            }
            return super.visitBinary(tree, nothing);
        }

        @Override
        public Void visitCompoundAssignment(CompoundAssignmentTree tree, Void nothing) {
            boolean divides = tree.getKind() == Tree.Kind.DIVIDE_ASSIGNMENT
                    || tree.getKind() == Tree.Kind.REMAINDER_ASSIGNMENT;
            if (divides) {
                checkDivisor(tree, tree.getExpression());
            }
            return super.visitCompoundAssignment(tree, nothing);
        }

        private void checkDivisor(Tree at, ExpressionTree operand) {
            ExpressionTree divisor = withoutParentheses(operand);
            TypeMirror type = trees.getTypeMirror(new TreePath(getCurrentPath(), operand));
            boolean isFraction = type.getKind() == TypeKind.FLOAT || type.getKind() == TypeKind.DOUBLE;
            Object value = constantOf(operand);
            boolean isKnown = value instanceof Number && ((Number) value).longValue() != 0;
            String elsewhere = (method == null ? "" : method.getName()) + " " + divisor;
            if (!isFraction && !isKnown && !LOOKED_AT_ELSEWHERE.contains(elsewhere) && !isCompared(divisor.toString())) {
                fault(at, "rule 7: a divisor that is not looked at");
            }
        }

        /** Looks for the divisor in a comparison of the same method, a loop's condition too. */
        private boolean isCompared(String divisor) {
            boolean[] found = {false};
            new TreeScanner<Void, Void>() {
                @Override
                public Void visitBinary(BinaryTree tree, Void nothing) {
                    boolean isLookedAt = !signOf(tree).isEmpty() && (tree.getLeftOperand().toString().equals(divisor)
                            || tree.getLeftOperand().toString().equals(divisor + " * " + divisor));
                    found[0] |= isLookedAt;
                    return super.visitBinary(tree, nothing);
                }
            }.scan(method, null);
            return found[0];
        }

        private ExpressionTree withoutParentheses(ExpressionTree tree) {
            ExpressionTree inner = tree;
            while (inner instanceof ParenthesizedTree) {
                inner = ((ParenthesizedTree) inner).getExpression();
            }
            return inner;
        }

        private String signOf(BinaryTree tree) {
            switch (tree.getKind()) {
                case LESS_THAN:
                    return "<";
                case LESS_THAN_EQUAL:
                    return "<=";
                case GREATER_THAN:
                    return ">";
                case GREATER_THAN_EQUAL:
                    return ">=";
                case EQUAL_TO:
                    return "==";
                case NOT_EQUAL_TO:
                    return "!=";
                default:
                    return "";
            }
        }

        /** The value of a constant's name, a written number, or sums and products of these; else null. */
        private Object constantOf(ExpressionTree tree) {
            ExpressionTree plain = withoutParentheses(tree);
            if (plain instanceof LiteralTree) {
                return ((LiteralTree) plain).getValue();
            }
            if (plain instanceof IdentifierTree || plain instanceof MemberSelectTree) {
                Element element = trees.getElement(new TreePath(getCurrentPath(), plain));
                return element instanceof VariableElement ? ((VariableElement) element).getConstantValue() : null;
            }
            if (plain instanceof BinaryTree) {
                Object left = constantOf(((BinaryTree) plain).getLeftOperand());
                Object right = constantOf(((BinaryTree) plain).getRightOperand());
                boolean isSum = plain.getKind() == Tree.Kind.PLUS || plain.getKind() == Tree.Kind.MULTIPLY;
                return isSum && left instanceof Number && right instanceof Number ? left : null;
            }
            return null;
        }
    }

    // ---- faulty pieces

    /** Each piece breaks one rule, and must be told; the last one breaks none. */
    private static int tryPieces() throws IOException {
        Map<String, String> pieces = new LinkedHashMap<>();
        pieces.put("rule 8: calls itself", "public int a() { return b(1); } private int b(int x) { return c(x); }"
                + " private int c(int x) { return x > 0 ? b(x - 1) : 0; }");
        pieces.put("rule 11: deeper", "public int a() { return b(); } private int b() { return c(); }"
                + " private int c() { return d(); } private int d() { return e(); } private int e() { return f(); }"
                + " private int f() { return g(); } private int g() { return h(); } private int h() { return i(); }"
                + " private int i() { return 1; }");
        pieces.put("rule 9: an end", "public int a(int x) { int s = 0; for (int i = 0; s < x; i++) { s++; } return s; }");
        pieces.put("rule 9: a loop without an end", "public int a(int x) { for (int i = 0; ; i++) { if (i > x) { return i; } } }");
        pieces.put("rule 9: the counter", "public void a() { for (int i = 0; i < 9; i++) { i = 0; } }");
        pieces.put("rule 9: a loop without a counter", "public void a(boolean x) { while (x) { a = 1; } } private int a = 0;");
        pieces.put("rule 7: a divisor", "public int a(int x) { return 9 % x; }");
        pieces.put("rule 7: a length", "private final int[] a = new int[b()]; private static int b() { return 3; }");
        pieces.put("the room", "public int a() { int[] x = new int[3]; return x[0]; }");
        pieces.put("rule 12", "private A x = null; public void a() { for (int i = 0; i < 3; i++) { x = new A(); } }"
                + " private static final class A { }");
        pieces.put("rule 3", "private final int[][][] a = new int[2][2][2];");
        pieces.put("rule 3: java.lang.Object", "public int a(int x) { Object y = null; return y == null ? 0 : 1; }");
        pieces.put("rule 3: long[][][]", "private long[][][] a = null;");
        pieces.put("rule 4: java.lang.Math", "public int a(int x) { return Math.addExact(x, 1); }");
        pieces.put("rule 4: java.lang.Object", "public boolean a() { return new Object() == null; }");
        pieces.put("rule 6: thrown in", "public SparseHall() { throw new IllegalStateException(); }");
        pieces.put("rule 6: thrown,", "public void a() throws NullPointerException { throw new NullPointerException(); }");
        pieces.put("rule 6: not announced", "public void a() { throw new IllegalStateException(); }");
        pieces.put("not in this class", "public int a() { try { return b(); } catch (IllegalStateException e) { return 1; } }"
                + " private int b() { return 2; }");
        pieces.put("rule 5: a static", "private static int a = 0;");
        pieces.put("rule 5: an initialiser", "private static final int A; static { A = 1; }");
        pieces.put("rule 1: neither", "int a() { return 1; }");
        pieces.put("rule 1: a field", "int a = 1;");
        pieces.put("rule 1: a class inside", "private final class A { }");
        pieces.put("rule 2: a class in a method", "public void a() { class A { } }");
        pieces.put("rule 2: a lambda", "private interface A { int b(); } public int a() { A x = () -> 1; return x.b(); }");
        pieces.put("rule 11: too many", "public void a(int b, int c, int d, int e, int f, int g, int h, int i) { }");
        pieces.put("rule 11: 70 lines", "public void a() {" + "\n".repeat(69) + "}");
        pieces.put("rule 7: a cast", "private A x = null; private interface A { } private static final class B implements A { }"
                + " public boolean a() { B y = (B) x; return y == null; }");
        int untold = 0;
        for (Map.Entry<String, String> piece : pieces.entrySet()) {
            List<String> faults = faultsOf("public final class SparseHall {\n" + piece.getValue() + "\n}\n", false);
            boolean isTold = false;
            for (String fault : faults) {
                isTold |= fault.startsWith(piece.getKey());
            }
            if (!isTold) {
                untold++;
                System.out.println("a faulty piece is not told: " + piece + " " + faults);
            }
        }
        List<String> none = faultsOf("public final class SparseHall {\n    public int a(int x) {\n"
                + "        int s = 0;\n        for (int i = 1; i < 9; i++) {\n            s += x % i;\n        }\n"
                + "        return Math.max(s, 1);\n    }\n}\n", false);
        if (!none.isEmpty()) {
            untold++;
            System.out.println("a sound piece is told: " + none);
        }
        return untold;
    }
}
