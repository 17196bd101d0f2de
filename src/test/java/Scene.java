import java.util.ArrayList;
import java.util.List;

/**
 * The test of one sentence of the document, on one budget. Of every refused call it is looked at
 * that it has changed nothing: a budget that got all the calls, and one that got all but the
 * refused ones, tell the same of themselves, at once and whatever is undone or revoked then.
 */
final class Scene {
    private static final int MOST_CALLS = 512;
    private static final int MOST_DEEDS = 12;

    private final Due due;
    private final String title;
    private final HeadBudgets budget = new HeadBudgets();
    private final List<Call> all = new ArrayList<>();
    private final List<Call> withoutRefused = new ArrayList<>();

    Scene(Due due, int promise, String sentence) {
        this.due = due;
        this.title = "Promise " + promise + " \"" + sentence + "\": ";
    }

    /** A call that is not refused, and the answer that is due. */
    void answers(int want, String name, int... with) {
        Call call = new Call(name, with);
        all.add(call);
        withoutRefused.add(call);
        due.is(title + call, call.answer(budget), want);
    }

    /** The same call so often, with the answer that is due each time. */
    void answersEachTime(int times, int want, String name, int... with) {
        for (int time = 0; time < times; time++) {
            answers(want, name, with);
        }
    }

    /** A call as often as there are answers, which are due one after the other. */
    void answersInTurn(int[] wants, String name, int... with) {
        for (int want : wants) {
            answers(want, name, with);
        }
    }

    void none(String name, int... with) {
        answers(HeadBudgets.NONE, name, with);
    }

    void invalid(String name, int... with) {
        refused(HeadBudgets.INVALID_ARGUMENT, name, with);
    }

    void illegal(String name, int... with) {
        refused(HeadBudgets.ILLEGAL_STATE, name, with);
    }

    void noRoom(String name, int... with) {
        refused(HeadBudgets.CAPACITY_EXCEEDED, name, with);
    }

    /** The argument at a place is from the least to the most one: all else is invalid. */
    void invalidOutside(int least, int most, String name, int place, int... with) {
        int[] outside = {least - 1, most + 1, Integer.MIN_VALUE, -9, most + 100, Integer.MAX_VALUE};
        for (int each : outside) {
            int[] changed = with.clone();
            changed[place] = each;
            invalid(name, changed);
        }
    }

    /** A deed that is answered, and undone at once, when so many are remembered: nothing is left of it. */
    void asIfNever(int want, int remembered, String name, int... with) {
        Call call = new Call(name, with);
        Call undo = new Call("undo");
        all.add(call);
        all.add(undo);
        due.is(title + call, call.answer(budget), want);
        due.is(title + undo + " after " + call, undo.answer(budget), remembered);
        staysAlike("the same after " + call + " and undo", List.of());
    }

    private void refused(int error, String name, int... with) {
        Call call = new Call(name, with);
        all.add(call);
        due.is(title + call, call.answer(budget), error);
        staysAlike(call + " changes nothing", List.of());
    }

    /** Looks at what the refused calls may have left behind, where only later calls show it. */
    void end() {
        due.holds(title + "stays within the calls of one object", all.size() + 2 * MOST_DEEDS < MOST_CALLS);
        List<Call> undos = new ArrayList<>();
        for (int index = 0; index <= MOST_DEEDS; index++) {
            undos.add(new Call("undo"));
            staysAlike("the same after undo() times " + undos.size(), undos);
            staysAlike("the same after revoke of " + index, List.of(new Call("revoke", index)));
        }
    }

    private void staysAlike(String what, List<Call> then) {
        due.holds(title + what, told(all, then).equals(told(withoutRefused, then)));
    }

    // An object answers for so many calls only; therefore what tells the rest is made anew.
    private static String told(List<Call> calls, List<Call> then) {
        StringBuilder text = new StringBuilder();
        HeadBudgets x = made(calls, then, text);
        int left = MOST_CALLS - calls.size() - then.size() - 2;
        for (Call look : Looks.all(x.count(1), x.count(2))) {
            if (left == 0) {
                x = made(calls, then, new StringBuilder());
                left = MOST_CALLS - calls.size() - then.size();
            }
            text.append(look.answer(x)).append(' ');
            left--;
        }
        return text.toString();
    }

    private static HeadBudgets made(List<Call> calls, List<Call> then, StringBuilder answers) {
        HeadBudgets x = new HeadBudgets();
        for (Call call : calls) {
            call.answer(x);
        }
        for (Call call : then) {
            answers.append(call.answer(x)).append(' ');
        }
        return x;
    }
}
