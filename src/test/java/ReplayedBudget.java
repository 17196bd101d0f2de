import java.util.ArrayList;
import java.util.List;

/**
 * The document told another way, to be compared with the program: every figure is worked out anew
 * from the list of all deeds that stand, whenever it is asked. Undoing drops the last of them.
 */
final class ReplayedBudget {
    /** A deed that stands: its kind, its arguments, and what it answered. */
    private static final class Done {
        final int kind;
        final int[] with;
        int year;
        Done revoked;
        int moved;

        Done(int kind, int... with) {
            this.kind = kind;
            this.with = with;
        }
    }

    private static final String[] KINDS = {"make", "allot", "freeze", "setShare", "setCarried",
        "commit", "pay", "release", "vire", "endYear", "revoke"};

    private final List<Done> done = new ArrayList<>();
    private int remembered;

    // What follows from the deeds, by replaying them.
    private final List<Integer> aboves = new ArrayList<>();
    private final List<Integer> ranks = new ArrayList<>();
    private final List<int[]> commitments = new ArrayList<>();
    private int[] frozen;
    private int[] share;
    private long[] allottedNow;
    private long[] gained;
    private long[] leftNow;
    private long[] spentNow;
    private int part;
    private int year;
    private long lapsed;
    private long paid;

    ReplayedBudget() {
        replay();
    }

    private void replay() {
        aboves.clear();
        ranks.clear();
        commitments.clear();
        aboves.add(-9);
        ranks.add(0);
        frozen = new int[20];
        share = new int[20];
        java.util.Arrays.fill(share, 50);
        allottedNow = new long[20];
        gained = new long[20];
        leftNow = new long[20];
        spentNow = new long[20];
        part = 10;
        year = 0;
        lapsed = 0;
        paid = 0;
        for (Done each : done) {
            apply(each);
        }
    }

    private void apply(Done it) {
        int[] with = it.with;
        switch (KINDS[it.kind]) {
            case "make" -> {
                aboves.add(with[0]);
                ranks.add(with[1]);
            }
            case "allot" -> allottedNow[with[0]] += with[1];
            case "freeze" -> frozen[with[0]] = with[1];
            case "setShare" -> share[with[0]] = with[1];
            case "setCarried" -> part = with[0];
            case "commit" -> commitments.add(new int[] {with[0], with[1], 0, year});
            case "pay" -> {
                int[] of = commitments.get(with[0]);
                of[1] -= with[1];
                of[2] += with[1];
                spentNow[of[0]] += with[1];
                paid += with[1];
            }
            case "release" -> commitments.get(with[0])[1] = 0;
            case "vire" -> {
                gained[with[0]] -= with[2];
                gained[with[1]] += with[2];
                leftNow[with[0]] += with[2];
            }
            case "endYear" -> {
                for (int head = 0; head < aboves.size(); head++) {
                    long stays = free(head) * part / 100;
                    lapsed += free(head) - stays;
                    long held = committed(head);
                    allottedNow[head] = stays;
                    gained[head] = held;
                    spentNow[head] = 0;
                    leftNow[head] = 0;
                }
                year++;
            }
            default -> {
                if (it.revoked.kind == 8) {
                    int[] back = it.revoked.with;
                    gained[back[0]] += back[2];
                    gained[back[1]] -= back[2];
                    leftNow[back[0]] -= back[2];
                } else {
                    commitments.get(it.revoked.moved)[1] = 0;
                }
            }
        }
    }

    private long committed(int head) {
        long sum = 0;
        for (int[] each : commitments) {
            sum += each[0] == head ? each[1] : 0;
        }
        return sum;
    }

    private long allotment(int head) {
        return allottedNow[head] + gained[head];
    }

    private long free(int head) {
        return allotment(head) - committed(head) - spentNow[head];
    }

    /** A head and all above it, the root last. */
    private List<Integer> upFrom(int head) {
        List<Integer> path = new ArrayList<>();
        for (int at = head; at >= 0; at = aboves.get(at)) {
            path.add(at);
        }
        return path;
    }

    private boolean barred(int head) {
        return upFrom(head).stream().anyMatch(each -> frozen[each] == 1);
    }

    private List<Integer> group(int head) {
        List<Integer> members = new ArrayList<>();
        for (int each = 0; each < aboves.size(); each++) {
            if (upFrom(each).contains(head)) {
                members.add(each);
            }
        }
        return members;
    }

    private int barredHeads() {
        int sum = 0;
        for (int each = 0; each < aboves.size(); each++) {
            sum += barred(each) ? 1 : 0;
        }
        return sum;
    }

    private boolean noHead(int head) {
        return head < 0 || head >= aboves.size();
    }

    private static boolean outside(int number, int least, int most) {
        return number < least || number > most;
    }

    private void keep(Done it) {
        it.year = year;
        done.add(it);
        remembered = Math.min(12, remembered + 1);
        apply(it);
    }

    private boolean mayMove(int from, int to, long amount) {
        boolean kin = upFrom(from).contains(to) || upFrom(to).contains(from)
            || aboves.get(from).equals(aboves.get(to));
        return !barred(from) && !barred(to) && (kin || ranks.get(from) <= ranks.get(to))
            && amount <= free(from)
            && (leftNow[from] + amount) * 100 <= share[from] * allottedNow[from];
    }

    int call(String name, int a, int b, int c) {
        return switch (name) {
            case "make" -> make(a, b);
            case "allot" -> allot(a, b);
            case "freeze" -> freeze(a, b);
            case "setShare" -> setShare(a, b);
            case "setCarried" -> setCarried(a);
            case "commit" -> commit(a, b);
            case "pay" -> pay(a, b);
            case "release" -> release(a);
            case "vire" -> vire(a, b, c);
            case "endYear" -> endYear();
            case "undo" -> undo();
            case "revoke" -> revoke(a);
            case "count" -> (int) count(a);
            case "head" -> (int) head(a, b);
            case "total" -> (int) total(a, b);
            case "commitment" -> commitment(a, b);
            case "deed" -> deed(a);
            case "mostFrom" -> mostFrom(a, b);
            case "bestGiver" -> bestGiver(a);
            case "richest" -> richest(a, b);
            default -> wouldLapse(a);
        };
    }

    private int make(int above, int rank) {
        if (noHead(above) || outside(rank, 0, 9)) {
            return -1;
        }
        if (upFrom(above).size() == 5) {
            return -2;
        }
        if (aboves.size() == 20) {
            return -3;
        }
        keep(new Done(0, above, rank));
        return aboves.size() - 1;
    }

    private int allot(int head, int amount) {
        if (noHead(head) || outside(amount, 1, 100000)) {
            return -1;
        }
        if (allotment(head) + amount > 1000000) {
            return -3;
        }
        keep(new Done(1, head, amount));
        return (int) allotment(head);
    }

    private int freeze(int head, int is) {
        if (noHead(head) || outside(is, 0, 1)) {
            return -1;
        }
        if (frozen[head] == is) {
            return -2;
        }
        keep(new Done(2, head, is));
        return barredHeads();
    }

    private int setShare(int head, int percent) {
        if (noHead(head) || outside(percent, 0, 100)) {
            return -1;
        }
        int was = share[head];
        keep(new Done(3, head, percent));
        return was;
    }

    private int setCarried(int percent) {
        if (outside(percent, 0, 100)) {
            return -1;
        }
        int was = part;
        keep(new Done(4, percent));
        return was;
    }

    private int commit(int head, int amount) {
        if (noHead(head) || outside(amount, 1, 100000)) {
            return -1;
        }
        if (barred(head) || amount > free(head)) {
            return -2;
        }
        if (commitments.size() == 40) {
            return -3;
        }
        Done it = new Done(5, head, amount);
        it.moved = commitments.size();
        keep(it);
        return it.moved;
    }

    private int pay(int number, int amount) {
        if (outside(number, 0, commitments.size() - 1) || outside(amount, 1, 100000)) {
            return -1;
        }
        if (commitments.get(number)[1] < amount) {
            return -2;
        }
        keep(new Done(6, number, amount));
        return commitments.get(number)[1];
    }

    private int release(int number) {
        if (outside(number, 0, commitments.size() - 1)) {
            return -1;
        }
        int open = commitments.get(number)[1];
        if (open == 0) {
            return -2;
        }
        keep(new Done(7, number));
        return open;
    }

    private int vire(int from, int to, int amount) {
        if (noHead(from) || noHead(to) || from == to || outside(amount, 1, 100000)) {
            return -1;
        }
        if (!mayMove(from, to, amount)) {
            return -2;
        }
        keep(new Done(8, from, to, amount));
        return (int) free(from);
    }

    private int endYear() {
        if (year == 99) {
            return -2;
        }
        long before = lapsed;
        keep(new Done(9));
        return (int) (lapsed - before);
    }

    private int undo() {
        if (remembered == 0) {
            return -2;
        }
        done.remove(done.size() - 1);
        remembered--;
        replay();
        return remembered;
    }

    private int revoke(int index) {
        if (index < 0) {
            return -1;
        }
        if (index >= remembered) {
            return -2;
        }
        Done target = done.get(done.size() - 1 - index);
        boolean again = done.stream().anyMatch(each -> each.revoked == target);
        if (again || target.year != year || target.kind != 5 && target.kind != 8) {
            return -2;
        }
        int amount = target.kind == 8 ? target.with[2] : commitments.get(target.moved)[1];
        if (amount == 0 || target.kind == 8 && amount > free(target.with[1])) {
            return -2;
        }
        Done it = new Done(10, index);
        it.revoked = target;
        keep(it);
        return amount;
    }

    private long count(int what) {
        long open = commitments.stream().filter(each -> each[1] > 0).count();
        return switch (what) {
            case 0 -> year;
            case 1 -> aboves.size();
            case 2 -> commitments.size();
            case 3 -> open;
            case 4 -> barredHeads();
            case 5 -> part;
            case 6 -> total(0, 0);
            case 7 -> lapsed;
            case 8 -> paid;
            case 9 -> remembered;
            default -> -1;
        };
    }

    private long head(int head, int what) {
        if (noHead(head)) {
            return -1;
        }
        return switch (what) {
            case 0 -> aboves.get(head);
            case 1 -> upFrom(head).size() - 1;
            case 2 -> ranks.get(head);
            case 3 -> frozen[head];
            case 4 -> barred(head) ? 1 : 0;
            case 5 -> allotment(head);
            case 6 -> committed(head);
            case 7 -> spentNow[head];
            case 8 -> free(head);
            case 9 -> allottedNow[head];
            case 10 -> leftNow[head];
            case 11 -> share[head];
            default -> -1;
        };
    }

    private long total(int head, int what) {
        if (noHead(head) || outside(what, 0, 4)) {
            return -1;
        }
        int[] property = {5, 6, 7, 8};
        long sum = 0;
        for (int each : group(head)) {
            sum += what == 4 ? 1 : head(each, property[what]);
        }
        return sum;
    }

    private int commitment(int number, int what) {
        if (outside(number, 0, commitments.size() - 1) || outside(what, 0, 3)) {
            return -1;
        }
        return commitments.get(number)[what];
    }

    private int deed(int index) {
        if (index < 0) {
            return -1;
        }
        return index >= remembered ? -9 : done.get(done.size() - 1 - index).kind;
    }

    // By halving, since what may be moved stays so for every smaller amount.
    private int mostFrom(int from, int to) {
        if (noHead(from) || noHead(to) || from == to) {
            return -1;
        }
        int least = 0;
        int beyond = 100001;
        while (beyond - least > 1) {
            int middle = (least + beyond) / 2;
            if (mayMove(from, to, middle)) {
                least = middle;
            } else {
                beyond = middle;
            }
        }
        return least;
    }

    private int bestGiver(int to) {
        if (noHead(to)) {
            return -1;
        }
        List<Integer> givers = new ArrayList<>();
        for (int from = 0; from < aboves.size(); from++) {
            if (from != to && mostFrom(from, to) > 0) {
                givers.add(from);
            }
        }
        givers.sort((one, other) -> {
            int byMost = Integer.compare(mostFrom(other, to), mostFrom(one, to));
            return byMost != 0 ? byMost : ranks.get(other) - ranks.get(one);
        });
        return givers.isEmpty() ? -9 : givers.get(0);
    }

    private int richest(int head, int index) {
        if (noHead(head) || index < 0) {
            return -1;
        }
        List<Integer> below = group(head);
        below.remove(Integer.valueOf(head));
        below.sort((one, other) -> {
            int byFree = Long.compare(free(other), free(one));
            return byFree != 0 ? byFree : ranks.get(other) - ranks.get(one);
        });
        return index >= below.size() ? -9 : below.get(index);
    }

    private int wouldLapse(int head) {
        if (noHead(head)) {
            return -1;
        }
        long sum = 0;
        for (int each : group(head)) {
            sum += free(each) - free(each) * part / 100;
        }
        return (int) sum;
    }
}
