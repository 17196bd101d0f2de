import java.util.ArrayDeque;
import java.util.ArrayList;
import java.util.Deque;
import java.util.List;
import java.util.Random;

/**
 * "Sums that agree head by head": after mixed deeds, what the calls tell agrees with what the other
 * calls tell, as the document has it. No figure here is worked out from the deeds, but for all that
 * was allotted.
 */
public final class AgreeTest {
    private static final int RUNS = 240;
    private static final int INVALID = HeadBudgets.INVALID_ARGUMENT;
    private static final int ILLEGAL = HeadBudgets.ILLEGAL_STATE;
    private static final int NONE = HeadBudgets.NONE;
    private static final int ABOVE = 0;
    private static final int DEPTH = 1;
    private static final int RANK = 2;
    private static final int FROZEN = 3;
    private static final int BARRED = 4;
    private static final int ALLOTMENT = 5;
    private static final int COMMITTED = 6;
    private static final int SPENT = 7;
    private static final int FREE = 8;
    private static final int ALLOTTED = 9;
    private static final int LEFT = 10;
    private static final int SHARE = 11;

    private final Due due;
    private final String run;
    private final Random random;
    private final Replays x = new Replays();
    /* What each deed that stands has allotted, the latest first. */
    private final Deque<Integer> allotted = new ArrayDeque<>();
    private int heads;
    private int commitments;

    private AgreeTest(Due due, int seed) {
        this.due = due;
        this.run = "run " + seed + ": ";
        this.random = new Random(seed);
    }

    public static void main(String[] args) {
        Due due = new Due();
        for (int seed = 0; seed < RUNS; seed++) {
            AgreeTest test = new AgreeTest(due, seed);
            test.deeds(new int[] {0, 5, 11, 12, 13, 40, 150, 400}[seed % 8]);
            test.countsAgree();
            test.headsAgree();
            test.totalsAgree();
            test.virementsAgree();
            test.ordersAgree();
            test.endOfTheYearAgrees();
            test.undoingAgrees();
        }
        due.close("AgreeTest");
    }

    private void is(String call, long got, long want) {
        due.is(run + call, got, want);
    }

    private int head(int head, int what) {
        return x.look("head", head, what);
    }

    private int below(int bound) {
        return random.nextInt(bound);
    }

    // ---- the deeds

    private void deeds(int times) {
        int scale = new int[] {9, 120, 100000}[below(3)];
        for (int time = 0; time < times; time++) {
            heads = x.look("count", 1);
            deed(1 + below(scale));
        }
        heads = x.look("count", 1);
        commitments = x.look("count", 2);
    }

    private void deed(int amount) {
        int head = below(heads);
        int other = below(heads);
        int commitment = below(x.look("count", 2) + 1);
        switch (below(20)) {
            case 0, 1, 2 -> keep(0, "make", head, below(10));
            case 3, 4, 5, 6 -> keep(amount, "allot", head, amount);
            case 7 -> keep(0, "freeze", head, below(4) == 0 ? 1 : 0);
            case 8 -> keep(0, "setShare", head, below(101));
            case 9 -> keep(0, "setCarried", below(101));
            case 10, 11 -> keep(0, "commit", head, 1 + amount / 3);
            case 12 -> keep(0, "pay", commitment, 1 + amount / 5);
            case 13 -> keep(0, "release", commitment);
            case 14, 15, 16 -> keep(0, "vire", head, other, 1 + amount / 4);
            case 17 -> keep(0, below(3) == 0 ? "endYear" : "setCarried", 90);
            case 18 -> keep(0, "revoke", below(12));
            default -> undo();
        }
    }

    private void keep(int allots, String name, int... with) {
        if (x.change(name, with) >= 0) {
            allotted.push(allots);
        }
    }

    private void undo() {
        if (x.change("undo") >= 0) {
            allotted.pop();
        }
    }

    // ---- what has to agree

    private void countsAgree() {
        int[] open = new int[heads];
        int some = 0;
        int paid = 0;
        for (int each = 0; each < commitments; each++) {
            open[x.look("commitment", each, 0)] += x.look("commitment", each, 1);
            some += x.look("commitment", each, 1) > 0 ? 1 : 0;
            paid += x.look("commitment", each, 2);
            due.holds(run + "no later year", x.look("commitment", each, 3) <= x.look("count", 0));
        }
        int barred = 0;
        for (int head = 0; head < heads; head++) {
            is("committed of " + head + " is what is open of its commitments", head(head, COMMITTED), open[head]);
            barred += head(head, BARRED);
        }
        is("open commitments", x.look("count", 3), some);
        is("all spent is all paid", x.look("count", 8), paid);
        is("barred heads", x.look("count", 4), barred);
        is("heads are the total of the root", x.look("count", 1), x.look("total", 0, 4));
        is("allotments are the total of the root", x.look("count", 6), x.look("total", 0, 0));
        int remembered = 0;
        while (x.look("deed", remembered) >= 0) {
            remembered++;
        }
        is("remembered deeds", x.look("count", 9), remembered);
        int all = 0;
        for (int each : allotted) {
            all += each;
        }
        int spentBefore = x.look("count", 8) - x.look("total", 0, 2);
        is("all allotted is there, lapsed, or spent in years before",
            x.look("count", 6) + x.look("count", 7) + spentBefore, all);
    }

    private void headsAgree() {
        for (int head = 0; head < heads; head++) {
            int above = head(head, ABOVE);
            boolean root = head == 0;
            due.holds(run + "the head above " + head + " was made before", root ? above == NONE : above >= 0 && above < head);
            is("depth of " + head, head(head, DEPTH), root ? 0 : head(above, DEPTH) + 1);
            int barredAbove = root ? 0 : head(above, BARRED);
            is("barred " + head, head(head, BARRED), Math.max(head(head, FROZEN), barredAbove));
            is("free of " + head, head(head, FREE), head(head, ALLOTMENT) - head(head, COMMITTED) - head(head, SPENT));
            for (int what = ALLOTMENT; what <= SHARE; what++) {
                due.holds(run + "head " + head + ", " + what + " is not below 0", head(head, what) >= 0);
            }
        }
        is("no further head", head(heads, ABOVE), INVALID);
        is("no further commitment", x.look("commitment", commitments, 0), INVALID);
    }

    private List<Integer> directlyBelow(int head) {
        List<Integer> found = new ArrayList<>();
        for (int each = 1; each < heads; each++) {
            if (head(each, ABOVE) == head) {
                found.add(each);
            }
        }
        return found;
    }

    private void totalsAgree() {
        int[] properties = {ALLOTMENT, COMMITTED, SPENT, FREE};
        int part = x.look("count", 5);
        for (int head = 0; head < heads; head++) {
            long free = head(head, FREE);
            long lapses = free - free * part / 100;
            long[] totals = new long[5];
            for (int each : directlyBelow(head)) {
                lapses += x.look("wouldLapse", each);
                for (int what = 0; what < 5; what++) {
                    totals[what] += x.look("total", each, what);
                }
            }
            is("would lapse of " + head, x.look("wouldLapse", head), lapses);
            for (int what = 0; what < 5; what++) {
                long own = what == 4 ? 1 : head(head, properties[what]);
                is("total " + head + ", " + what, x.look("total", head, what), own + totals[what]);
            }
        }
    }

    private void virementsAgree() {
        for (int to = 0; to < heads; to++) {
            int best = NONE;
            for (int from = 0; from < heads; from++) {
                int most = x.look("mostFrom", from, to);
                if (from == to) {
                    is("mostFrom of the same", most, INVALID);
                } else if (most > 0 && (best == NONE || givesMore(from, best, to))) {
                    best = from;
                }
            }
            is("bestGiver to " + to, x.look("bestGiver", to), best);
        }
        for (int pair = 0; pair < 12; pair++) {
            int from = below(heads);
            int to = below(heads);
            if (from != to) {
                theMostIsMovedAndNoMore(from, to, x.look("mostFrom", from, to));
            }
        }
    }

    private boolean givesMore(int one, int other, int to) {
        int more = x.look("mostFrom", one, to) - x.look("mostFrom", other, to);
        return more != 0 ? more > 0 : head(one, RANK) > head(other, RANK);
    }

    private void theMostIsMovedAndNoMore(int from, int to, int most) {
        String told = "vire of " + from + ", " + to + ", ";
        is(told + (most + 1), x.would("vire", from, to, most + 1), most == 100000 ? INVALID : ILLEGAL);
        if (most > 0) {
            is(told + most, x.would("vire", from, to, most), head(from, FREE) - most);
            long share = (long) head(from, SHARE) * head(from, ALLOTTED) / 100;
            due.holds(run + told + "keeps to the share", head(from, LEFT) + most <= share);
            due.holds(run + told + "keeps to no barred head", head(from, BARRED) + head(to, BARRED) == 0);
        }
    }

    private void ordersAgree() {
        for (int head = 0; head < heads; head++) {
            int all = x.look("total", head, 4) - 1;
            is("richest " + head + " after all", x.look("richest", head, all), NONE);
            int before = NONE;
            for (int index = 0; index < all; index++) {
                int at = x.look("richest", head, index);
                due.holds(run + "richest " + head + ", " + index + " is below it", isBelow(at, head));
                due.holds(run + "richest " + head + ", " + index + " is in order", before == NONE || comesFirst(before, at));
                before = at;
            }
        }
    }

    private boolean isBelow(int one, int other) {
        for (int at = head(one, ABOVE); at >= 0; at = head(at, ABOVE)) {
            if (at == other) {
                return true;
            }
        }
        return false;
    }

    // Of two heads, never both ways: so an order that holds tells every head once.
    private boolean comesFirst(int one, int other) {
        int more = head(one, FREE) - head(other, FREE);
        if (more == 0) {
            more = head(one, RANK) - head(other, RANK);
        }
        return more > 0 || more == 0 && one < other;
    }

    private void endOfTheYearAgrees() {
        int year = x.look("count", 0);
        int lapsed = x.look("count", 7);
        int would = x.look("wouldLapse", 0);
        int[] stay = new int[heads];
        for (int head = 0; head < heads; head++) {
            stay[head] = head(head, FREE) - ownLapse(head);
        }
        is("endYear", x.change("endYear"), would);
        allotted.push(0);
        is("the year", x.look("count", 0), year + 1);
        is("lapsed so far", x.look("count", 7), lapsed + would);
        is("nothing is spent", x.look("total", 0, 2), 0);
        for (int head = 0; head < heads; head++) {
            is("carried forward, free, of " + head, head(head, FREE), stay[head]);
            is("carried forward, allotted, of " + head, head(head, ALLOTTED), stay[head]);
            is("left " + head, head(head, LEFT), 0);
        }
        countsAgree();
    }

    private int ownLapse(int head) {
        int own = x.look("wouldLapse", head);
        for (int each : directlyBelow(head)) {
            own -= x.look("wouldLapse", each);
        }
        return own;
    }

    private void undoingAgrees() {
        for (int left = x.look("count", 9) - 1; left >= 0; left--) {
            is("undo", x.change("undo"), left);
            allotted.pop();
            heads = x.look("count", 1);
            commitments = x.look("count", 2);
            countsAgree();
        }
        is("nothing more to undo", x.change("undo"), ILLEGAL);
    }
}
