import com.sun.source.tree.AssignmentTree;
import com.sun.source.tree.BinaryTree;
import com.sun.source.tree.BlockTree;
import com.sun.source.tree.ClassTree;
import com.sun.source.tree.CompoundAssignmentTree;
import com.sun.source.tree.EnhancedForLoopTree;
import com.sun.source.tree.ExpressionStatementTree;
import com.sun.source.tree.ExpressionTree;
import com.sun.source.tree.ForLoopTree;
import com.sun.source.tree.LiteralTree;
import com.sun.source.tree.MethodInvocationTree;
import com.sun.source.tree.ParenthesizedTree;
import com.sun.source.tree.StatementTree;
import com.sun.source.tree.Tree;
import com.sun.source.tree.Tree.Kind;
import com.sun.source.tree.UnaryTree;
import com.sun.source.tree.VariableTree;
import com.sun.source.tree.WhileLoopTree;
import com.sun.source.util.TreePath;
import java.io.IOException;
import java.nio.file.Files;
import java.nio.file.Path;
import java.util.List;
import java.util.Set;
import javax.lang.model.element.Element;
import javax.lang.model.element.ElementKind;
import javax.lang.model.element.Modifier;
import javax.lang.model.element.VariableElement;
import javax.lang.model.type.ArrayType;
import javax.lang.model.type.TypeKind;
import javax.lang.model.type.TypeMirror;

/**
 * The rules of LANGUAGE.md that a program can look after, on the tree that javac makes of the class. What the class
 * has no use for is barred altogether, though a rule may leave it: who comes to need it puts the rule's words here.
 */
public final class LanguageTest {
    private static final Due DUE = new Due();
    private static final Path SOURCE = Path.of("src/main/java/NestedFoci.java");
    private static final Set<Kind> BARRED = Set.of(
        Kind.PACKAGE, Kind.IMPORT, Kind.ANNOTATION,                                     // rules 1, 4
        Kind.LAMBDA_EXPRESSION, Kind.MEMBER_REFERENCE, Kind.ENUM, Kind.RECORD,          // rule 2
        Kind.FLOAT_LITERAL, Kind.DOUBLE_LITERAL, Kind.TYPE_CAST, Kind.STRING_LITERAL,   // rules 3, 6
        Kind.INSTANCE_OF, Kind.BINDING_PATTERN, Kind.SWITCH_EXPRESSION,                 // rules 6, 10
        Kind.THROW, Kind.TRY, Kind.CATCH, Kind.SYNCHRONIZED, Kind.ASSERT);              // rule 6
    private static final Set<String> LIBRARY = Set.of("Math.max(int,int)", "Math.min(int,int)", "Integer.compare(int,int)");
    private static final int MOST_LINES = 60, MOST_CLASSES = 12, MOST_FIELDS = 20, MOST_PARAMETERS = 7, MOST_CALLS = 8;

    private static Code code;

    public static void main(String[] args) throws IOException {
        code = Code.of(SOURCE);
        oneFileOfTwelveClasses();
        barredKinds();
        types();
        library();
        staticFields();
        divisors();
        recursion();
        loops();
        sizes();
        depthOfCalls();
        constructors();
        signs();
        DUE.end();
    }

    private static void isSo(String rule, Tree where, boolean holds) {
        String words = where.toString().strip().lines().findFirst().orElse("");
        DUE.is(rule + ", line " + code.line(where) + ": " + words, holds ? 1 : 0, 1);
    }

    // ---- rules 1 and 2

    private static void oneFileOfTwelveClasses() {
        DUE.is("rule 1, classes beside each other", code.unit.getTypeDecls().size(), 1);
        DUE.is("rule 11, some twelve classes, has " + code.classes.size(), code.classes.size() <= MOST_CLASSES ? 1 : 0, 1);
        for (ClassTree c : code.classes) {
            Element element = code.meaning(c);
            boolean isOuter = element.getEnclosingElement().getKind() == ElementKind.PACKAGE;
            boolean isInside = element.getEnclosingElement().getKind() == ElementKind.CLASS;
            isSo("rule 2, a class inside is a static member", c,
                isOuter || isInside && element.getModifiers().contains(Modifier.STATIC));
            isSo("rule 1, a class inside is not public", c,
                isOuter || !element.getModifiers().contains(Modifier.PUBLIC));
            int fields = 0;
            for (Element e : element.getEnclosedElements()) {
                fields += e.getKind() == ElementKind.FIELD && !e.getModifiers().contains(Modifier.STATIC) ? 1 : 0;
                boolean isOpen = e.getModifiers().contains(Modifier.PUBLIC) || e.getModifiers().contains(Modifier.PROTECTED);
                isSo("rule 1, nothing public or protected inside: " + e, c, isOuter || !isOpen);
            }
            isSo("rule 11, some twenty fields, has " + fields, c, fields <= MOST_FIELDS);
        }
    }

    private static void barredKinds() {
        for (TreePath node : code.nodes) {
            Tree tree = node.getLeaf();
            isSo("barred: " + tree.getKind(), tree, !BARRED.contains(tree.getKind()));
            boolean isInMethod = tree instanceof ClassTree && node.getParentPath().getLeaf().getKind() != Kind.CLASS;
            isSo("rule 2, no class within a method", tree, !isInMethod || tree == code.classes.get(0));
            boolean isStaticBlock = tree.getKind() == Kind.BLOCK && node.getParentPath().getLeaf() instanceof ClassTree;
            isSo("rule 5, no initialiser block", tree, !isStaticBlock);
        }
    }

    // ---- rules 3 and 4

    private static void types() {
        for (TreePath node : code.nodes) {
            Tree tree = node.getLeaf();
            if (tree instanceof VariableTree || tree.getKind() == Kind.NEW_ARRAY || tree.getKind() == Kind.NEW_CLASS) {
                isSo("rule 3, a type", tree, isType(code.type(tree)));
            }
        }
        for (Code.Method m : code.methods()) {
            TypeMirror answer = m.element.getReturnType();
            isSo("rule 3, an answer's type", m.tree, answer.getKind() == TypeKind.VOID || isType(answer));
        }
    }

    private static boolean isType(TypeMirror type) {
        if (type.getKind() == TypeKind.ARRAY) {
            TypeMirror one = ((ArrayType) type).getComponentType();
            return one.getKind() != TypeKind.ARRAY && isType(one);
        }
        boolean isNumber = Set.of(TypeKind.INT, TypeKind.LONG, TypeKind.BOOLEAN).contains(type.getKind());
        return isNumber || type.toString().equals("NestedFoci") || type.toString().startsWith("NestedFoci.");
    }

    private static void library() {
        for (Code.Call call : code.calls) {
            String name = call.called.getEnclosingElement().getSimpleName() + "." + call.called;
            boolean isOwn = isType(call.called.getEnclosingElement().asType());
            boolean isUnwritten = name.equals("Object.Object()");
            isSo("rule 4, of the library: " + name, call.tree, isOwn || isUnwritten || LIBRARY.contains(name));
        }
        for (TreePath node : code.nodes) {
            Element meaning = node.getLeaf().getKind() == Kind.MEMBER_SELECT ? code.meaning(node) : null;
            if (meaning != null && meaning.getKind() == ElementKind.FIELD && !isOwn(meaning)) {
                boolean isListed = meaning.toString().equals("length") || node.getLeaf().toString().equals("Long.MIN_VALUE");
                isSo("rule 4, a field of the library", node.getLeaf(), isListed);
            }
        }
    }

    private static boolean isOwn(Element element) {
        return element.getEnclosingElement() != null && isType(element.getEnclosingElement().asType());
    }

    // ---- rules 5 and 7

    private static void staticFields() {
        for (TreePath node : code.nodes) {
            Element meaning = node.getLeaf() instanceof VariableTree ? code.meaning(node) : null;
            if (meaning != null && meaning.getModifiers().contains(Modifier.STATIC)) {
                isSo("rule 5, a static field is a constant", node.getLeaf(),
                    meaning.getModifiers().contains(Modifier.FINAL) && ((VariableElement) meaning).getConstantValue() != null);
            }
        }
    }

    /** Of divisors only constants beside 0 are left, which need no test. */
    private static void divisors() {
        Set<Kind> kinds = Set.of(Kind.DIVIDE, Kind.REMAINDER, Kind.DIVIDE_ASSIGNMENT, Kind.REMAINDER_ASSIGNMENT);
        for (TreePath node : code.nodes) {
            Tree tree = node.getLeaf();
            if (kinds.contains(tree.getKind())) {
                boolean isNumber = tree instanceof BinaryTree && ((BinaryTree) tree).getRightOperand() instanceof LiteralTree;
                isSo("rule 7, a divisor", tree, isNumber && !((BinaryTree) tree).getRightOperand().toString().equals("0"));
            }
        }
    }

    // ---- rule 8

    private static void recursion() {
        for (Code.Method from : code.methods()) {
            for (Code.Call call : from.calls) {
                Code.Method to = code.called(call);
                if (to != null && code.areRecursive(from, to)) {
                    isSo("rule 8, recursion is of private methods", from.tree,
                        from.element.getModifiers().contains(Modifier.PRIVATE));
                    isSo("rule 8, recursion hands a depth on", call.tree, handsDepthOn(call, from == to));
                    isSo("rule 8, recursion looks at the depth", from.tree, isGuarded(from));
                }
            }
        }
    }

    /** Among the numbers handed over, the depth is the last; a method that calls itself makes it greater. */
    private static boolean handsDepthOn(Code.Call call, boolean isItself) {
        List<? extends VariableElement> told = call.called.getParameters();
        if (told.isEmpty() || !told.get(told.size() - 1).getSimpleName().contentEquals("depth")) {
            return false;
        }
        List<? extends ExpressionTree> given = ((MethodInvocationTree) call.tree).getArguments();
        String depth = given.get(given.size() - 1).toString();
        return depth.equals("depth + 1") || depth.equals("depth") && !isItself;
    }

    /** A method looks at its depth, or else each method that calls it in turn, with no greater one, has done so. */
    private static boolean isGuarded(Code.Method m) {
        if (m.tree.getBody().toString().matches("(?s).*depth > (DEEPEST|MOST_HEIGHT).*")) {
            return true;
        }
        for (Code.Method from : code.methods()) {
            for (Code.Call call : from.calls) {
                boolean isGreater = call.tree.toString().contains("depth + 1");
                if (code.called(call) == m && (isGreater || from == m || !isGuarded(from))) {
                    return false;
                }
            }
        }
        return true;
    }

    // ---- rule 9

    private static void loops() {
        for (TreePath node : code.nodes) {
            Tree tree = node.getLeaf();
            isSo("rule 9, no do loop", tree, tree.getKind() != Kind.DO_WHILE_LOOP);
            if (tree instanceof ForLoopTree) {
                ForLoopTree loop = (ForLoopTree) tree;
                isSo("rule 9, a for loop counts", tree, loop.getUpdate().size() == 1
                    && countsBy(loop.getUpdate().get(0), loop.getCondition(), loop));
            }
            if (tree instanceof WhileLoopTree) {
                isSo("rule 9, a while loop counts", tree, countsWithin((WhileLoopTree) tree));
            }
            if (tree instanceof EnhancedForLoopTree) {
                TypeMirror type = code.type(((EnhancedForLoopTree) tree).getExpression());
                isSo("rules 9 and 12, for over an array", tree, type.getKind() == TypeKind.ARRAY);
            }
        }
    }

    private static boolean countsWithin(WhileLoopTree loop) {
        for (StatementTree line : ((BlockTree) loop.getStatement()).getStatements()) {
            if (countsBy(line, loop.getCondition(), loop)) {
                return true;
            }
        }
        return false;
    }

    /** This ++ or -- brings its counter nearer to a bound, and nothing else in the loop changes the counter. */
    private static boolean countsBy(StatementTree line, ExpressionTree condition, Tree loop) {
        if (!(line instanceof ExpressionStatementTree)
                || !(((ExpressionStatementTree) line).getExpression() instanceof UnaryTree)) {
            return false;
        }
        UnaryTree update = (UnaryTree) ((ExpressionStatementTree) line).getExpression();
        String counter = update.getExpression().toString();
        Set<Kind> bounded = update.getKind() == Kind.POSTFIX_INCREMENT ? Set.of(Kind.LESS_THAN, Kind.LESS_THAN_EQUAL)
            : update.getKind() == Kind.POSTFIX_DECREMENT ? Set.of(Kind.GREATER_THAN) : Set.of();
        int changes = 0;
        for (TreePath node : code.nodes) {
            changes += changes(node.getLeaf(), counter) && isWithin(node, loop) ? 1 : 0;
        }
        return changes == 1 && isBounded(condition, counter, bounded);
    }

    /** One part of the condition, all of which must hold, is the counter against a bound. */
    private static boolean isBounded(ExpressionTree condition, String counter, Set<Kind> bounded) {
        if (condition instanceof ParenthesizedTree) {
            return isBounded(((ParenthesizedTree) condition).getExpression(), counter, bounded);
        }
        if (condition.getKind() == Kind.CONDITIONAL_AND) {
            BinaryTree both = (BinaryTree) condition;
            return isBounded(both.getLeftOperand(), counter, bounded) || isBounded(both.getRightOperand(), counter, bounded);
        }
        return bounded.contains(condition.getKind()) && ((BinaryTree) condition).getLeftOperand().toString().equals(counter);
    }

    private static boolean changes(Tree tree, String name) {
        Tree changed = tree instanceof AssignmentTree ? ((AssignmentTree) tree).getVariable()
            : tree instanceof CompoundAssignmentTree ? ((CompoundAssignmentTree) tree).getVariable()
            : tree instanceof UnaryTree ? ((UnaryTree) tree).getExpression() : null;
        boolean isLooked = tree.getKind() == Kind.UNARY_MINUS || tree.getKind() == Kind.LOGICAL_COMPLEMENT;
        return changed != null && !isLooked && changed.toString().equals(name);
    }

    private static boolean isWithin(TreePath node, Tree outer) {
        for (Tree around : node) {
            if (around == outer) {
                return true;
            }
        }
        return false;
    }

    // ---- rule 11

    private static void sizes() {
        for (Code.Method m : code.methods()) {
            int lines = code.lastLine(m.tree) - code.line(m.tree) + 1;
            isSo("rule 11, a method of " + lines + " lines", m.tree, lines <= MOST_LINES);
            isSo("rule 11, parameters", m.tree, m.tree.getParameters().size() <= MOST_PARAMETERS);
        }
    }

    /** A method that comes once more on the way is recursion; what goes ahead of it counts. */
    private static void depthOfCalls() {
        for (Code.Method m : code.methods()) {
            List<String> row = code.deepest(m);
            isSo("rule 11, " + row.size() + " calls deep: " + row, m.tree, row.size() <= MOST_CALLS);
        }
    }

    // ---- rule 12

    private static void constructors() {
        for (Code.Method m : code.methods()) {
            if (m.element.getKind() != ElementKind.CONSTRUCTOR) {
                continue;
            }
            for (Code.Call call : m.calls) {
                boolean isOther = call.called.getKind() == ElementKind.CONSTRUCTOR
                    || call.called.getModifiers().contains(Modifier.STATIC);
                isSo("rule 12, a constructor calls no method of the object", call.tree, isOther);
            }
            boolean isAlone = !m.tree.getBody().toString().matches("(?s).*\\bthis\\b(?!\\.).*");
            isSo("rule 12, a constructor hands the object to nobody", m.tree, isAlone);
        }
    }

    /** What the source says, comments and all. */
    private static void signs() throws IOException {
        for (String line : Files.readAllLines(SOURCE)) {
            DUE.is("a long line: " + line, line.length() <= 120 ? 1 : 0, 1);
            DUE.is("rule 4, signs of 1 to 127: " + line, line.chars().allMatch(c -> c >= 1 && c <= 127) ? 1 : 0, 1);
        }
    }
}
