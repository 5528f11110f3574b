import com.sun.source.tree.AssignmentTree;
import com.sun.source.tree.BinaryTree;
import com.sun.source.tree.CompoundAssignmentTree;
import com.sun.source.tree.ExpressionStatementTree;
import com.sun.source.tree.ExpressionTree;
import com.sun.source.tree.ForLoopTree;
import com.sun.source.tree.LiteralTree;
import com.sun.source.tree.Tree;
import com.sun.source.tree.UnaryTree;
import com.sun.source.tree.VariableTree;
import com.sun.source.util.TreeScanner;

/** Whether a for loop counts a variable of its own towards a bound, and nothing else changes that. */
final class CountedLoop {
    private final String counter;

    private CountedLoop(String counter) {
        this.counter = counter;
    }

    static boolean hasAnEnd(ForLoopTree loop) {
        if (loop.getInitializer().size() != 1 || loop.getUpdate().size() != 1 || loop.getCondition() == null
                || !(loop.getInitializer().get(0) instanceof VariableTree)) {
            return false;
        }
        VariableTree own = (VariableTree) loop.getInitializer().get(0);
        CountedLoop seen = new CountedLoop(own.getName().toString());
        int way = seen.wayOf(((ExpressionStatementTree) loop.getUpdate().get(0)).getExpression());
        return way != 0 && seen.isBounded(loop.getCondition(), way) && !seen.isChangedIn(loop.getStatement());
    }

    private boolean isCounter(Tree tree) {
        return tree.toString().equals(counter);
    }

    /** 1 when it counts up, -1 when it counts down, 0 when that can not be seen. */
    private int wayOf(ExpressionTree update) {
        if (update instanceof UnaryTree && isCounter(((UnaryTree) update).getExpression())) {
            return wayOf(update.getKind());
        }
        if (update instanceof CompoundAssignmentTree) {
            CompoundAssignmentTree step = (CompoundAssignmentTree) update;
            boolean plain = step.getExpression() instanceof LiteralTree
                    && !step.getExpression().toString().equals("0");
            return plain && isCounter(step.getVariable()) ? wayOf(update.getKind()) : 0;
        }
        return 0;
    }

    private static int wayOf(Tree.Kind kind) {
        switch (kind) {
            case POSTFIX_INCREMENT:
            case PREFIX_INCREMENT:
            case PLUS_ASSIGNMENT:
                return 1;
            case POSTFIX_DECREMENT:
            case PREFIX_DECREMENT:
            case MINUS_ASSIGNMENT:
                return -1;
            default:
                return 0;
        }
    }

    private boolean isBounded(ExpressionTree condition, int way) {
        if (!(condition instanceof BinaryTree)) {
            return false;
        }
        BinaryTree binary = (BinaryTree) condition;
        switch (condition.getKind()) {
            case CONDITIONAL_AND:
                return isBounded(binary.getLeftOperand(), way) || isBounded(binary.getRightOperand(), way);
            case LESS_THAN:
                return way == 1 && isCounter(binary.getLeftOperand());
            case GREATER_THAN:
            case GREATER_THAN_EQUAL:
                return way == -1 && isCounter(binary.getLeftOperand());
            default:
                return false;
        }
    }

    private boolean isChangedIn(Tree body) {
        boolean[] changed = {false};
        new TreeScanner<Void, Void>() {
            @Override
            public Void visitAssignment(AssignmentTree node, Void none) {
                changed[0] |= isCounter(node.getVariable());
                return super.visitAssignment(node, none);
            }

            @Override
            public Void visitCompoundAssignment(CompoundAssignmentTree node, Void none) {
                changed[0] |= isCounter(node.getVariable());
                return super.visitCompoundAssignment(node, none);
            }

            @Override
            public Void visitUnary(UnaryTree node, Void none) {
                changed[0] |= wayOf(node.getKind()) != 0 && isCounter(node.getExpression());
                return super.visitUnary(node, none);
            }
        }.scan(body, null);
        return changed[0];
    }
}
