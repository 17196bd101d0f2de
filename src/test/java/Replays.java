import java.util.ArrayList;
import java.util.List;

/**
 * A budget that can be asked without end: an object answers for 512 calls only, so that another one
 * is brought to the same state, by the same calls, when those of the first are used up.
 */
final class Replays {
    private static final int MOST_CALLS = 512;

    private final List<Call> changes = new ArrayList<>();
    private HeadBudgets budget = new HeadBudgets();
    private int used;

    /** A call that may change something. */
    int change(String name, int... with) {
        Call call = new Call(name, with);
        int answer = answer(call);
        changes.add(call);
        return answer;
    }

    /** A call that changes nothing, and need not be made again. */
    int look(String name, int... with) {
        return answer(new Call(name, with));
    }

    /** What a call that may change something would answer, told by another budget in the same state. */
    int would(String name, int... with) {
        return new Call(name, with).answer(made());
    }

    private int answer(Call call) {
        if (used == MOST_CALLS) {
            budget = made();
            used = changes.size();
        }
        used++;
        return call.answer(budget);
    }

    private HeadBudgets made() {
        HeadBudgets x = new HeadBudgets();
        for (Call call : changes) {
            call.answer(x);
        }
        return x;
    }
}
