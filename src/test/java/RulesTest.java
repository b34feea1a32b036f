import com.sun.source.tree.ArrayTypeTree;
import com.sun.source.tree.AssignmentTree;
import com.sun.source.tree.BinaryTree;
import com.sun.source.tree.ClassTree;
import com.sun.source.tree.CompilationUnitTree;
import com.sun.source.tree.CompoundAssignmentTree;
import com.sun.source.tree.ExpressionStatementTree;
import com.sun.source.tree.ForLoopTree;
import com.sun.source.tree.IdentifierTree;
import com.sun.source.tree.LiteralTree;
import com.sun.source.tree.MethodInvocationTree;
import com.sun.source.tree.MethodTree;
import com.sun.source.tree.NewArrayTree;
import com.sun.source.tree.NewClassTree;
import com.sun.source.tree.PrimitiveTypeTree;
import com.sun.source.tree.StatementTree;
import com.sun.source.tree.Tree;
import com.sun.source.tree.TypeCastTree;
import com.sun.source.tree.UnaryTree;
import com.sun.source.tree.VariableTree;
import com.sun.source.util.JavacTask;
import com.sun.source.util.TreePath;
import com.sun.source.util.TreePathScanner;
import com.sun.source.util.Trees;
import java.io.File;
import java.util.List;
import java.util.Map;
import java.util.Set;
import java.util.TreeMap;
import java.util.TreeSet;
import javax.lang.model.element.Element;
import javax.lang.model.element.ElementKind;
import javax.lang.model.element.Modifier;
import javax.lang.model.element.VariableElement;
import javax.tools.JavaCompiler;
import javax.tools.StandardJavaFileManager;
import javax.tools.ToolProvider;

/**
 * The rules of LANGUAGE.md that need the source to be read as javac reads it: calls, types, loops, what is made.
 * LIBRARY and KINDS name what the class uses now, which is less than the rules allow: who needs more looks at the rules
 * and adds it there.
 */
public final class RulesTest {
    private static final Set<String> LIBRARY = Set.of(
        "java.lang.Integer.bitCount", "java.lang.Integer.numberOfTrailingZeros", "java.lang.Math.min", "java.lang.Object.<init>");
    private static final Set<String> KINDS = Set.of(
        "COMPILATION_UNIT", "CLASS", "METHOD", "VARIABLE", "MODIFIERS", "BLOCK", "PRIMITIVE_TYPE", "ARRAY_TYPE", "IDENTIFIER",
        "MEMBER_SELECT", "METHOD_INVOCATION", "NEW_CLASS", "NEW_ARRAY", "ARRAY_ACCESS", "ASSIGNMENT", "EXPRESSION_STATEMENT",
        "IF", "FOR_LOOP", "RETURN", "SWITCH", "CASE", "PARENTHESIZED", "CONDITIONAL_EXPRESSION", "TYPE_CAST",
        "INT_LITERAL", "LONG_LITERAL", "CHAR_LITERAL", "BOOLEAN_LITERAL",
        "PLUS", "MINUS", "MULTIPLY", "DIVIDE", "REMAINDER", "AND", "OR", "XOR", "LEFT_SHIFT", "RIGHT_SHIFT", "UNSIGNED_RIGHT_SHIFT",
        "UNARY_MINUS", "BITWISE_COMPLEMENT", "LOGICAL_COMPLEMENT", "POSTFIX_INCREMENT", "CONDITIONAL_AND", "CONDITIONAL_OR",
        "EQUAL_TO", "NOT_EQUAL_TO", "LESS_THAN", "LESS_THAN_EQUAL", "GREATER_THAN", "GREATER_THAN_EQUAL",
        "PLUS_ASSIGNMENT", "MULTIPLY_ASSIGNMENT", "OR_ASSIGNMENT", "AND_ASSIGNMENT");
    private static final int MOST_LINES = 60, MOST_DEPTH = 8, MOST_PARAMETERS = 7, MOST_CLASSES = 12, MOST_FIELDS = 20;

    private static final Map<String, Set<String>> calls = new TreeMap<>();
    private static final Map<String, Integer> depths = new TreeMap<>();
    private static int classes = 0;
    private static int loops = 0;
    private static int wrong = 0;

    private static void check(boolean holds, String rule) {
        if (!holds) {
            wrong++;
            System.out.println("not so: " + rule);
        }
    }

    private static final class Reader extends TreePathScanner<Void, Void> {
        private final CompilationUnitTree unit;
        private final Trees trees;

        Reader(CompilationUnitTree unit, Trees trees) {
            this.unit = unit;
            this.trees = trees;
        }

        private long lineAt(long place) {
            return unit.getLineMap().getLineNumber(place);
        }

        private String at(Tree tree) {
            return "line " + lineAt(trees.getSourcePositions().getStartPosition(unit, tree)) + ": ";
        }

        private static String nameOf(Element element) {
            return element.getEnclosingElement() + "." + element;
        }

        private Element enclosingMethod() {
            for (TreePath path = getCurrentPath(); path != null; path = path.getParentPath()) {
                if (path.getLeaf() instanceof MethodTree) {
                    return trees.getElement(path);
                }
            }
            return null;
        }

        private static boolean isOwn(Element type) {
            String name = String.valueOf(type);
            return name.equals("OughtKnown") || name.startsWith("OughtKnown.");
        }

        private boolean isOwnType(Tree type) {
            return type instanceof IdentifierTree && isOwn(trees.getElement(new TreePath(getCurrentPath(), type)));
        }

        private boolean isAllowedType(Tree type) {
            Tree inner = type instanceof ArrayTypeTree ? ((ArrayTypeTree) type).getType() : type;
            return inner instanceof PrimitiveTypeTree || isOwnType(inner);
        }

        @Override
        public Void scan(Tree tree, Void nothing) {
            if (tree != null) {
                check(KINDS.contains(tree.getKind().name()), at(tree) + "no " + tree.getKind() + " (rules 2, 6, 10)");
            }
            return super.scan(tree, nothing);
        }

        @Override
        public Void visitClass(ClassTree tree, Void nothing) {
            classes++;
            Element type = trees.getElement(getCurrentPath());
            boolean isInside = type.getEnclosingElement().getKind() == ElementKind.CLASS;
            check(!isInside || type.getModifiers().contains(Modifier.STATIC), at(tree) + type + " is static (rule 2)");
            check(isInside || classes == 1, at(tree) + type + " stands inside (rule 1)");
            int fields = 0;
            for (Tree member : tree.getMembers()) {
                check(member instanceof MethodTree || member instanceof VariableTree || member instanceof ClassTree,
                    at(member) + "no block of its own (rule 5)");
                if (member instanceof VariableTree && !((VariableTree) member).getModifiers().getFlags().contains(Modifier.STATIC)) {
                    fields++;
                }
            }
            check(fields <= MOST_FIELDS, type + " has " + fields + " fields (rule 11)");
            return super.visitClass(tree, nothing);
        }

        @Override
        public Void visitMethod(MethodTree tree, Void nothing) {
            Element method = trees.getElement(getCurrentPath());
            calls.computeIfAbsent(nameOf(method), key -> new TreeSet<>());
            check(tree.getParameters().size() <= MOST_PARAMETERS, nameOf(method) + " takes too much (rule 11)");
            long first = lineAt(trees.getSourcePositions().getStartPosition(unit, tree));
            long last = lineAt(trees.getSourcePositions().getEndPosition(unit, tree));
            check(last - first < MOST_LINES, nameOf(method) + " has " + (last - first + 1) + " lines (rule 11)");
            return super.visitMethod(tree, nothing);
        }

        @Override
        public Void visitVariable(VariableTree tree, Void nothing) {
            check(isAllowedType(tree.getType()), at(tree) + tree.getType() + " is no type for it (rule 3)");
            VariableElement variable = (VariableElement) trees.getElement(getCurrentPath());
            if (variable.getModifiers().contains(Modifier.STATIC)) {
                check(variable.getModifiers().contains(Modifier.FINAL) && variable.getConstantValue() != null,
                    at(tree) + variable + " is a constant (rule 5)");
            }
            return super.visitVariable(tree, nothing);
        }

        @Override
        public Void visitMethodInvocation(MethodInvocationTree tree, Void nothing) {
            called(tree, trees.getElement(getCurrentPath()));
            return super.visitMethodInvocation(tree, nothing);
        }

        @Override
        public Void visitNewClass(NewClassTree tree, Void nothing) {
            made(tree);
            check(tree.getClassBody() == null, at(tree) + "no class without a name (rule 2)");
            called(tree, trees.getElement(getCurrentPath()));
            return super.visitNewClass(tree, nothing);
        }

        @Override
        public Void visitNewArray(NewArrayTree tree, Void nothing) {
            made(tree);
            check(tree.getDimensions().size() == 1 && isConstant(tree.getDimensions().get(0)), at(tree) + "a length that is known (rule 7)");
            return super.visitNewArray(tree, nothing);
        }

        /** All rows are made once and used again: a call makes nothing. */
        private void made(Tree tree) {
            Element method = enclosingMethod();
            check(method != null && method.getKind() == ElementKind.CONSTRUCTOR, at(tree) + "made by a constructor (rule 12)");
        }

        private void called(Tree tree, Element method) {
            Element caller = enclosingMethod();
            if (isOwn(method.getEnclosingElement())) {
                check(caller != null, at(tree) + "called by a method");
                calls.computeIfAbsent(caller == null ? "" : nameOf(caller), key -> new TreeSet<>()).add(nameOf(method));
            } else {
                check(LIBRARY.contains(method.getEnclosingElement() + "." + method.getSimpleName()), at(tree) + nameOf(method) + " (rule 4)");
            }
        }

        @Override
        public Void visitTypeCast(TypeCastTree tree, Void nothing) {
            check(tree.getType() instanceof PrimitiveTypeTree, at(tree) + "a cast of numbers (rule 6)");
            return super.visitTypeCast(tree, nothing);
        }

        @Override
        public Void visitBinary(BinaryTree tree, Void nothing) {
            if (tree.getKind() == Tree.Kind.DIVIDE || tree.getKind() == Tree.Kind.REMAINDER) {
                Object divisor = valueOf(tree.getRightOperand());
                check(divisor instanceof Number && ((Number) divisor).longValue() != 0, at(tree) + "a divisor that is known (rule 7)");
            }
            return super.visitBinary(tree, nothing);
        }

        private Object valueOf(Tree tree) {
            if (tree instanceof LiteralTree) {
                return ((LiteralTree) tree).getValue();
            }
            Element element = trees.getElement(new TreePath(getCurrentPath(), tree));
            return element instanceof VariableElement ? ((VariableElement) element).getConstantValue() : null;
        }

        private boolean isConstant(Tree tree) {
            Object value = valueOf(tree);
            return value instanceof Integer && (Integer) value > 0;
        }

        /** for (int i = ..; i < ..; i++), with an i that the loop's lines leave alone. */
        @Override
        public Void visitForLoop(ForLoopTree tree, Void nothing) {
            loops++;
            List<? extends StatementTree> begin = tree.getInitializer();
            List<? extends ExpressionStatementTree> update = tree.getUpdate();
            boolean isPlain = begin.size() == 1 && begin.get(0) instanceof VariableTree && update.size() == 1
                && tree.getCondition() instanceof BinaryTree && update.get(0).getExpression() instanceof UnaryTree;
            check(isPlain, at(tree) + "a counter against a bound (rule 9)");
            if (isPlain) {
                String counter = ((VariableTree) begin.get(0)).getName().toString();
                BinaryTree condition = (BinaryTree) tree.getCondition();
                boolean isBound = condition.getKind() == Tree.Kind.LESS_THAN || condition.getKind() == Tree.Kind.LESS_THAN_EQUAL;
                check(isBound && condition.getLeftOperand().toString().equals(counter), at(tree) + condition + " ends it (rule 9)");
                check(update.get(0).getExpression().toString().equals(counter + "++"), at(tree) + counter + " goes up (rule 9)");
                new Untouched(counter, at(tree)).scan(new TreePath(getCurrentPath(), tree.getStatement()), null);
            }
            return super.visitForLoop(tree, nothing);
        }
    }

    /** Nothing in these lines sets the counter. */
    private static final class Untouched extends TreePathScanner<Void, Void> {
        private final String counter;
        private final String at;

        Untouched(String counter, String at) {
            this.counter = counter;
            this.at = at;
        }

        private void checkTarget(Tree target) {
            check(!target.toString().equals(counter), at + counter + " is left alone in the loop (rule 9)");
        }

        @Override
        public Void visitAssignment(AssignmentTree tree, Void nothing) {
            checkTarget(tree.getVariable());
            return super.visitAssignment(tree, nothing);
        }

        @Override
        public Void visitCompoundAssignment(CompoundAssignmentTree tree, Void nothing) {
            checkTarget(tree.getVariable());
            return super.visitCompoundAssignment(tree, nothing);
        }

        @Override
        public Void visitUnary(UnaryTree tree, Void nothing) {
            if (tree.getKind() == Tree.Kind.POSTFIX_INCREMENT) {
                checkTarget(tree.getExpression());
            }
            return super.visitUnary(tree, nothing);
        }
    }

    /** How many calls stand open at most, this one counted; a method that comes back to itself is told. */
    private static int depthOf(String method, Set<String> open) {
        check(!open.contains(method), method + " does not call itself (rule 8)");
        if (open.contains(method)) {
            return 0;
        }
        if (!depths.containsKey(method)) {
            open.add(method);
            int deepest = 0;
            for (String callee : calls.getOrDefault(method, Set.of())) {
                deepest = Math.max(deepest, depthOf(callee, open));
            }
            open.remove(method);
            depths.put(method, deepest + 1);
        }
        return depths.get(method);
    }

    public static void main(String[] args) throws Exception {
        JavaCompiler compiler = ToolProvider.getSystemJavaCompiler();
        StandardJavaFileManager files = compiler.getStandardFileManager(null, null, null);
        JavacTask task = (JavacTask) compiler.getTask(null, files, null, List.of("-proc:none"), null,
            files.getJavaFileObjects(new File(args.length > 0 ? args[0] : "src/main/java/OughtKnown.java")));
        Iterable<? extends CompilationUnitTree> units = task.parse();
        task.analyze();
        for (CompilationUnitTree unit : units) {
            check(unit.getPackageName() == null && unit.getImports().isEmpty(), "no package, no import");
            new Reader(unit, Trees.instance(task)).scan(unit, null);
        }
        int deepest = 0;
        for (String method : calls.keySet()) {
            int depth = depthOf(method, new TreeSet<>());
            check(depth <= MOST_DEPTH, method + " goes " + depth + " deep (rule 11)");
            deepest = Math.max(deepest, depth);
        }
        check(classes > 1 && classes <= MOST_CLASSES, classes + " classes (rule 11)");
        check(calls.size() > 29 && loops > 0, "the source was read");
        System.out.println(classes + " classes, " + calls.size() + " methods, " + loops + " loops, " + deepest + " deep, " + wrong + " faults");
        if (wrong != 0) {
            System.exit(1);
        }
    }
}
