import com.sun.source.tree.BinaryTree;
import com.sun.source.tree.BlockTree;
import com.sun.source.tree.ExpressionStatementTree;
import com.sun.source.tree.ExpressionTree;
import com.sun.source.tree.ParenthesizedTree;
import com.sun.source.tree.StatementTree;
import com.sun.source.tree.Tree;
import com.sun.source.tree.UnaryTree;
import java.util.ArrayList;
import java.util.List;
import java.util.regex.Pattern;

/** Whether a loop has an end that can be seen from its own lines: a counter that goes towards a bound in each turn. */
final class LoopEnd {
    private LoopEnd() {
    }

    static boolean ofFor(ExpressionTree condition, List<? extends StatementTree> steps, StatementTree body) {
        return isSeen(condition, steps, steps + " " + body);
    }

    static boolean ofWhile(ExpressionTree condition, StatementTree body) {
        return body instanceof BlockTree block && isSeen(condition, block.getStatements(), body.toString());
    }

    private static boolean isSeen(ExpressionTree condition, List<? extends StatementTree> steps, String lines) {
        for (BinaryTree bound : bounds(condition)) {
            String counter = bound.getLeftOperand().toString();
            Tree.Kind step = stepTowards(bound);
            for (StatementTree statement : steps) {
                if (isStep(statement, step, counter) && changes(counter, lines) == 1) {
                    return true;
                }
            }
        }
        return false;
    }

    /** The comparisons that all have to hold for one more turn. */
    private static List<BinaryTree> bounds(ExpressionTree condition) {
        List<BinaryTree> found = new ArrayList<>();
        if (condition instanceof ParenthesizedTree inside) {
            found.addAll(bounds(inside.getExpression()));
        } else if (condition instanceof BinaryTree both && both.getKind() == Tree.Kind.CONDITIONAL_AND) {
            found.addAll(bounds(both.getLeftOperand()));
            found.addAll(bounds(both.getRightOperand()));
        } else if (condition instanceof BinaryTree one) {
            found.add(one);
        }
        return found;
    }

    private static Tree.Kind stepTowards(BinaryTree bound) {
        return switch (bound.getKind()) {
            case LESS_THAN, LESS_THAN_EQUAL -> Tree.Kind.POSTFIX_INCREMENT;
            case GREATER_THAN, GREATER_THAN_EQUAL -> Tree.Kind.POSTFIX_DECREMENT;
            default -> null;
        };
    }

    private static boolean isStep(StatementTree statement, Tree.Kind step, String counter) {
        return statement instanceof ExpressionStatementTree alone && alone.getExpression().getKind() == step
                && ((UnaryTree) alone.getExpression()).getExpression().toString().equals(counter);
    }

    // The tree is written out in one form alone, so the signs behind the name tell each change.
    private static long changes(String counter, String lines) {
        // A field of the same name is another one.
        String name = "(?<![.\\w])" + Pattern.quote(counter) + "\\b";
        String change = name + "(\\+\\+|--| [-+*/%&|^<>]*= )|(\\+\\+|--)" + name;
        return Pattern.compile(change).matcher(lines).results().filter(found -> !isComparison(found.group())).count();
    }

    private static boolean isComparison(String change) {
        return change.endsWith(" <= ") || change.endsWith(" >= ");
    }
}
