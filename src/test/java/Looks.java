import java.util.ArrayList;
import java.util.List;

/** All that the calls which change nothing tell of a budget. */
final class Looks {
    private Looks() {
    }

    /** Every such call for a budget of so many heads and commitments. */
    static List<Call> all(int heads, int commitments) {
        List<Call> looks = new ArrayList<>();
        addEach(looks, "count", 10);
        addEach(looks, "deed", 13);
        addEach(looks, "bestGiver", heads);
        addEach(looks, "wouldLapse", heads);
        addPairs(looks, "head", heads, 12);
        addPairs(looks, "total", heads, 5);
        addPairs(looks, "mostFrom", heads, heads);
        addPairs(looks, "richest", heads, heads);
        addPairs(looks, "commitment", commitments, 4);
        return looks;
    }

    private static void addEach(List<Call> looks, String name, int firsts) {
        for (int first = 0; first < firsts; first++) {
            looks.add(new Call(name, first));
        }
    }

    private static void addPairs(List<Call> looks, String name, int firsts, int seconds) {
        for (int first = 0; first < firsts; first++) {
            for (int second = 0; second < seconds; second++) {
                looks.add(new Call(name, first, second));
            }
        }
    }

    static String at(HeadBudgets x) {
        StringBuilder text = new StringBuilder();
        for (Call look : all(x.count(1), x.count(2))) {
            text.append(look).append(' ').append(look.answer(x)).append('\n');
        }
        return text.toString();
    }
}
