import com.sun.source.tree.ArrayAccessTree;
import com.sun.source.tree.AssignmentTree;
import com.sun.source.tree.BinaryTree;
import com.sun.source.tree.ClassTree;
import com.sun.source.tree.CompoundAssignmentTree;
import com.sun.source.tree.ExpressionTree;
import com.sun.source.tree.ForLoopTree;
import com.sun.source.tree.ImportTree;
import com.sun.source.tree.LiteralTree;
import com.sun.source.tree.MethodInvocationTree;
import com.sun.source.tree.MethodTree;
import com.sun.source.tree.NewArrayTree;
import com.sun.source.tree.NewClassTree;
import com.sun.source.tree.Tree;
import com.sun.source.tree.UnaryTree;
import com.sun.source.tree.VariableTree;
import com.sun.source.tree.WhileLoopTree;
import com.sun.source.util.TreePath;
import com.sun.source.util.TreePathScanner;
import java.io.IOException;
import java.util.EnumSet;
import java.util.Set;
import javax.lang.model.element.Element;
import javax.lang.model.element.ElementKind;
import javax.lang.model.element.Modifier;
import javax.lang.model.element.VariableElement;

/**
 * The rules of LANGUAGE.md that can be looked up in the source, by their numbers. What the rules allow but the
 * class does without (lists, texts, casts, recursion) is refused too: whoever comes to need it adds its test here.
 */
public final class LanguageTest extends TreePathScanner<Void, Void> {
    private static final Checks CHECKS = new Checks();

    private static final Set<Tree.Kind> RULE_2 = EnumSet.of(Tree.Kind.LAMBDA_EXPRESSION, Tree.Kind.MEMBER_REFERENCE,
        Tree.Kind.INTERFACE, Tree.Kind.ENUM, Tree.Kind.RECORD, Tree.Kind.ANNOTATION_TYPE, Tree.Kind.ANNOTATION);
    private static final Set<Tree.Kind> RULE_6 = EnumSet.of(Tree.Kind.THROW, Tree.Kind.TRY, Tree.Kind.CATCH,
        Tree.Kind.SYNCHRONIZED, Tree.Kind.ASSERT, Tree.Kind.INSTANCE_OF, Tree.Kind.TYPE_CAST);
    private static final Set<Tree.Kind> RULE_9 = EnumSet.of(Tree.Kind.DO_WHILE_LOOP, Tree.Kind.ENHANCED_FOR_LOOP);

    private static final String TYPES = "(int|long|boolean)(\\[\\])?|FoldDye\\.\\w+(\\[\\])?";
    private static final Set<String> LIBRARY = Set.of("java.lang.Object.Object()", "java.lang.Math.max(int,int)",
        "java.lang.Math.min(int,int)", "java.lang.Math.abs(int)", "java.lang.Integer.bitCount(int)",
        "java.util.Arrays.fill(int[],int)", "java.lang.System.arraycopy(java.lang.Object,int,java.lang.Object,int,int)");

    private final Source source;
    private final Calls calls = new Calls();
    private int classes = 0;

    private LanguageTest(Source source) {
        this.source = source;
    }

    private void rule(int number, String what, Tree where, boolean holds) {
        CHECKS.that("rule " + number + ", line " + source.firstLine(where) + ": " + what, holds);
    }

    @Override
    public Void scan(Tree tree, Void nothing) {
        if (tree != null) {
            rule(2, "no " + tree.getKind(), tree, !RULE_2.contains(tree.getKind()));
            rule(6, "no " + tree.getKind(), tree, !RULE_6.contains(tree.getKind()));
            rule(9, "no " + tree.getKind(), tree, !RULE_9.contains(tree.getKind()));
        }
        return super.scan(tree, nothing);
    }

    @Override
    public Void visitImport(ImportTree tree, Void nothing) {
        rule(4, "no " + tree, tree, tree.getQualifiedIdentifier().toString().equals("java.util.Arrays"));
        return super.visitImport(tree, nothing);
    }

    @Override
    public Void visitClass(ClassTree tree, Void nothing) {
        classes++;
        Set<Modifier> modifiers = tree.getModifiers().getFlags();
        boolean outer = getCurrentPath().getParentPath().getLeaf().getKind() == Tree.Kind.COMPILATION_UNIT;
        boolean member = getCurrentPath().getParentPath().getLeaf().getKind() == Tree.Kind.CLASS;
        rule(1, "the class is public and final", tree,
            !outer || modifiers.equals(EnumSet.of(Modifier.PUBLIC, Modifier.FINAL)) && tree.getSimpleName().contentEquals("FoldDye"));
        rule(2, tree.getSimpleName() + " is a private static class of the class", tree,
            outer || member && modifiers.containsAll(EnumSet.of(Modifier.PRIVATE, Modifier.STATIC, Modifier.FINAL)));
        int fields = 0;
        for (Tree inside : tree.getMembers()) {
            boolean own = inside instanceof VariableTree field && !field.getModifiers().getFlags().contains(Modifier.STATIC);
            fields += own ? 1 : 0;
            rule(5, "no block of a class", inside, inside.getKind() != Tree.Kind.BLOCK);
        }
        rule(11, tree.getSimpleName() + " has " + fields + " fields", tree, fields <= 20);
        return super.visitClass(tree, nothing);
    }

    @Override
    public Void visitMethod(MethodTree tree, Void nothing) {
        int lines = source.lastLine(tree) - source.firstLine(tree) + 1;
        rule(11, tree.getName() + " has " + lines + " lines", tree, lines <= 60);
        rule(11, tree.getName() + " takes seven at most", tree, tree.getParameters().size() <= 7);
        rule(6, tree.getName() + " throws nothing", tree, tree.getThrows().isEmpty());
        rule(6, "no equals, hashCode or toString", tree, !tree.getName().toString().matches("equals|hashCode|toString"));
        return super.visitMethod(tree, nothing);
    }

    @Override
    public Void visitVariable(VariableTree tree, Void nothing) {
        String type = source.type(getCurrentPath()).toString();
        rule(3, tree.getName() + " is of type " + type, tree, type.matches(TYPES));
        if (tree.getModifiers().getFlags().contains(Modifier.STATIC)) {
            boolean written = tree.getInitializer() instanceof NewArrayTree made && made.getInitializers() != null;
            boolean fixed = ((VariableElement) source.meant(getCurrentPath())).getConstantValue() != null;
            rule(5, tree.getName() + " is final", tree, tree.getModifiers().getFlags().contains(Modifier.FINAL));
            rule(5, tree.getName() + " is a constant", tree, type.equals("int[]") ? written : fixed);
        }
        return super.visitVariable(tree, nothing);
    }

    /** A field's first value is given when an object is made, so what it calls is called there. */
    private Element caller() {
        for (Tree around : getCurrentPath()) {
            if (around instanceof MethodTree) {
                return source.meant(TreePath.getPath(source.unit, around));
            }
            if (around instanceof ClassTree) {
                return constructorOf(source.meant(TreePath.getPath(source.unit, around)));
            }
        }
        return null;
    }

    private static Element constructorOf(Element type) {
        for (Element member : type.getEnclosedElements()) {
            if (member.getKind() == ElementKind.CONSTRUCTOR) {
                return member;
            }
        }
        return type;
    }

    private void call(Tree tree) {
        Element called = source.meant(getCurrentPath());
        String owner = called.getEnclosingElement().toString();
        if (owner.startsWith("FoldDye")) {
            calls.add(caller(), called);
        } else {
            rule(4, "no " + owner + "." + called, tree, LIBRARY.contains(owner + "." + called));
        }
    }

    /** Rows are made in constructors and used again; only a new cloth needs new ones. */
    private void making(Tree tree) {
        Element maker = caller();
        boolean allowed = maker != null && (maker.getKind() == ElementKind.CONSTRUCTOR || maker.getSimpleName().contentEquals("cloth"));
        rule(12, "nothing is made by " + maker, tree, allowed || inStaticField());
    }

    private boolean inStaticField() {
        return getCurrentPath().getParentPath().getLeaf() instanceof VariableTree field
            && field.getModifiers().getFlags().contains(Modifier.STATIC);
    }

    @Override
    public Void visitMethodInvocation(MethodInvocationTree tree, Void nothing) {
        call(tree);
        return super.visitMethodInvocation(tree, nothing);
    }

    @Override
    public Void visitNewClass(NewClassTree tree, Void nothing) {
        rule(2, "no anonymous class", tree, tree.getClassBody() == null);
        call(tree);
        making(tree);
        return super.visitNewClass(tree, nothing);
    }

    @Override
    public Void visitNewArray(NewArrayTree tree, Void nothing) {
        rule(3, "one dimension", tree, tree.getDimensions().size() <= 1);
        making(tree);
        return super.visitNewArray(tree, nothing);
    }

    @Override
    public Void visitBinary(BinaryTree tree, Void nothing) {
        if (tree.getKind() == Tree.Kind.DIVIDE || tree.getKind() == Tree.Kind.REMAINDER) {
            divides(tree.getRightOperand());
        }
        rule(10, "no text is joined", tree, !source.type(getCurrentPath()).toString().equals("java.lang.String"));
        return super.visitBinary(tree, nothing);
    }

    /** rule() keeps FADE above 0. */
    private void divides(ExpressionTree divisor) {
        Element meant = source.meant(new TreePath(getCurrentPath(), divisor));
        Object constant = divisor instanceof LiteralTree literal ? literal.getValue()
            : meant instanceof VariableElement variable ? variable.getConstantValue() : null;
        boolean above0 = constant instanceof Integer number && number > 0;
        rule(7, "divided by " + divisor, divisor, above0 || divisor.toString().equals("rules[FADE]"));
    }

    @Override
    public Void visitForLoop(ForLoopTree tree, Void nothing) {
        boolean bounded = tree.getCondition() != null && tree.getCondition().toString().contains(" <");
        rule(9, "a counter against a bound", tree, bounded && tree.getUpdate().size() == 1);
        return super.visitForLoop(tree, nothing);
    }

    @Override
    public Void visitWhileLoop(WhileLoopTree tree, Void nothing) {
        rule(9, "a counter against a bound", tree, tree.getCondition().toString().contains(" < "));
        return super.visitWhileLoop(tree, nothing);
    }

    @Override
    public Void visitAssignment(AssignmentTree tree, Void nothing) {
        changes(tree.getVariable());
        return super.visitAssignment(tree, nothing);
    }

    @Override
    public Void visitCompoundAssignment(CompoundAssignmentTree tree, Void nothing) {
        changes(tree.getVariable());
        return super.visitCompoundAssignment(tree, nothing);
    }

    @Override
    public Void visitUnary(UnaryTree tree, Void nothing) {
        if (tree.getKind().name().endsWith("CREMENT")) {
            changes(tree.getExpression());
        }
        return super.visitUnary(tree, nothing);
    }

    private void changes(ExpressionTree variable) {
        TreePath path = new TreePath(getCurrentPath(), variable);
        while (path.getLeaf() instanceof ArrayAccessTree access) {
            path = new TreePath(path, access.getExpression());
        }
        Element meant = source.meant(path);
        rule(5, variable + " is not changed", variable, meant == null || !meant.getModifiers().contains(Modifier.STATIC));
    }

    public static void main(String[] args) throws IOException {
        LanguageTest test = new LanguageTest(new Source());
        test.scan(test.source.unit, null);
        CHECKS.that("rule 1: no package", test.source.unit.getPackageName() == null);
        CHECKS.that("rule 4: signs 1 to 127", Source.text().chars().allMatch(c -> c >= 1 && c <= 127));
        CHECKS.that("rule 11: " + test.classes + " classes", test.classes > 1 && test.classes <= 12);
        CHECKS.that("rule 8: these come back to themselves: " + test.calls.recursive(), test.calls.recursive().isEmpty());
        CHECKS.that("rule 11: calls go " + test.calls.deepest() + " deep", test.calls.deepest() > 1 && test.calls.deepest() <= 8);
        CHECKS.end();
    }
}
