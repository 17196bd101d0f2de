/**
 * A budget by heads: allotments, commitments, payments, virements, freezes, the end of a year,
 * sums, what-if questions, and undo. What each call answers is told in the project's DOC.md.
 */
public final class HeadBudgets {
    public static final int INVALID_ARGUMENT = -1;
    public static final int ILLEGAL_STATE = -2;
    public static final int CAPACITY_EXCEEDED = -3;
    public static final int NONE = -9;

    private static final int ROOT = 0;
    private static final int MOST_HEADS = 20;
    private static final int GREATEST_DEPTH = 4;
    private static final int GREATEST_RANK = 9;
    private static final int MOST_COMMITMENTS = 40;
    private static final int MOST_DEEDS = 12;
    private static final int MOST_AT_ONCE = 100000;
    private static final int MOST_ALLOTMENT = 1000000;
    private static final int LAST_YEAR = 99;
    private static final int PERCENT = 100;
    private static final int FIRST_SHARE = 50;
    private static final int FIRST_CARRIED_PART = 10;

    /* The kinds of deeds, by the numbers that deed() answers. */
    private static final int MAKE = 0;
    private static final int ALLOT = 1;
    private static final int FREEZE = 2;
    private static final int SET_SHARE = 3;
    private static final int SET_CARRIED = 4;
    private static final int COMMIT = 5;
    private static final int PAY = 6;
    private static final int RELEASE = 7;
    private static final int VIRE = 8;
    private static final int END_YEAR = 9;
    private static final int REVOKE = 10;

    /* What total() sums, by its numbers; all others count the heads. */
    private static final int ALLOTMENTS = 0;
    private static final int COMMITTED = 1;
    private static final int SPENT = 2;
    private static final int FREE_MONEY = 3;
    private static final int HEADS = 4;

    private final Books now;
    private final Memory memory;

    public HeadBudgets() {
        now = new Books();
        memory = new Memory();
        now.heads.add(NONE, 0);
    }

    // ---- heads

    public int make(int above, int rank) {
        Heads heads = now.heads;
        if (!heads.has(above) || rank < 0 || rank > GREATEST_RANK) {
            return INVALID_ARGUMENT;
        }
        if (heads.depth[above] >= GREATEST_DEPTH) {
            return ILLEGAL_STATE;
        }
        if (heads.made >= MOST_HEADS) {
            return CAPACITY_EXCEEDED;
        }
        memory.remember(MAKE, now);
        return heads.add(above, rank);
    }

    public int allot(int head, int amount) {
        Heads heads = now.heads;
        if (!heads.has(head) || !isAmount(amount)) {
            return INVALID_ARGUMENT;
        }
        if (heads.allotment[head] > MOST_ALLOTMENT - amount) {
            return CAPACITY_EXCEEDED;
        }
        memory.remember(ALLOT, now);
        heads.allotment[head] += amount;
        heads.allotted[head] += amount;
        return heads.allotment[head];
    }

    public int freeze(int head, int is) {
        Heads heads = now.heads;
        if (!heads.has(head) || is < 0 || is > 1) {
            return INVALID_ARGUMENT;
        }
        if (heads.frozen[head] == is) {
            return ILLEGAL_STATE;
        }
        memory.remember(FREEZE, now);
        heads.frozen[head] = is;
        return heads.countBarred();
    }

    public int setShare(int head, int share) {
        Heads heads = now.heads;
        if (!heads.has(head) || !isPercentage(share)) {
            return INVALID_ARGUMENT;
        }
        memory.remember(SET_SHARE, now);
        int previous = heads.share[head];
        heads.share[head] = share;
        return previous;
    }

    public int setCarried(int part) {
        if (!isPercentage(part)) {
            return INVALID_ARGUMENT;
        }
        memory.remember(SET_CARRIED, now);
        int previous = now.carriedPart;
        now.carriedPart = part;
        return previous;
    }

    // ---- commitments and payments

    public int commit(int head, int amount) {
        Heads heads = now.heads;
        if (!heads.has(head) || !isAmount(amount)) {
            return INVALID_ARGUMENT;
        }
        if (heads.isBarred(head) || amount > heads.freeOf(head)) {
            return ILLEGAL_STATE;
        }
        if (now.commitments.made >= MOST_COMMITMENTS) {
            return CAPACITY_EXCEEDED;
        }
        memory.rememberCommitment(now, now.commitments.made);
        heads.changeCommitted(head, amount);
        return now.commitments.add(head, amount, now.year);
    }

    public int pay(int commitment, int amount) {
        Commitments commitments = now.commitments;
        if (!commitments.has(commitment) || !isAmount(amount)) {
            return INVALID_ARGUMENT;
        }
        if (amount > commitments.open[commitment]) {
            return ILLEGAL_STATE;
        }
        memory.remember(PAY, now);
        commitments.open[commitment] -= amount;
        commitments.paid[commitment] += amount;
        now.heads.spendCommitted(commitments.head[commitment], amount);
        now.spent += amount;
        return commitments.open[commitment];
    }

    public int release(int commitment) {
        if (!now.commitments.has(commitment)) {
            return INVALID_ARGUMENT;
        }
        if (now.commitments.open[commitment] == 0) {
            return ILLEGAL_STATE;
        }
        memory.remember(RELEASE, now);
        return now.freeOpenOf(commitment);
    }

    // ---- virements and years

    public int vire(int from, int to, int amount) {
        Heads heads = now.heads;
        if (!heads.hasBoth(from, to) || !isAmount(amount)) {
            return INVALID_ARGUMENT;
        }
        if (amount > heads.movable(from, to)) {
            return ILLEGAL_STATE;
        }
        memory.rememberVirement(now, from, to, amount);
        heads.moveByVirement(from, to, amount);
        return heads.freeOf(from);
    }

    public int endYear() {
        if (now.year >= LAST_YEAR) {
            return ILLEGAL_STATE;
        }
        memory.remember(END_YEAR, now);
        int lapsing = now.heads.lapseWithin(ROOT, now.carriedPart);
        now.heads.carryForward(now.carriedPart);
        now.lapsed += lapsing;
        now.year++;
        return lapsing;
    }

    // ---- undoing

    public int undo() {
        Deed latest = memory.recall(0);
        if (latest == null) {
            return ILLEGAL_STATE;
        }
        now.copyFrom(latest.before);
        return memory.forgetLatest();
    }

    public int revoke(int index) {
        if (index < 0) {
            return INVALID_ARGUMENT;
        }
        Deed deed = memory.recall(index);
        if (deed == null || deed.before.year != now.year || memory.wasRevoked(deed.number)) {
            return ILLEGAL_STATE;
        }
        if (deed.kind == VIRE) {
            return revokeVirement(deed.number, deed.subject, deed.taker, deed.amount);
        }
        if (deed.kind == COMMIT) {
            return revokeCommitment(deed.number, deed.subject);
        }
        return ILLEGAL_STATE;
    }

    // The deed itself is not handed on: when the memory is full, its place may be the one
    // that the revoking takes.
    private int revokeVirement(int number, int giver, int taker, int amount) {
        if (amount > now.heads.freeOf(taker)) {
            return ILLEGAL_STATE;
        }
        memory.rememberRevoking(now, number);
        now.heads.moveByVirement(giver, taker, -amount);
        return amount;
    }

    private int revokeCommitment(int number, int commitment) {
        if (!now.commitments.has(commitment) || now.commitments.open[commitment] == 0) {
            return ILLEGAL_STATE;
        }
        memory.rememberRevoking(now, number);
        return now.freeOpenOf(commitment);
    }

    // ---- looking

    public int count(int what) {
        switch (what) {
            case 0:
                return now.year;
            case 1:
                return now.heads.made;
            case 2:
                return now.commitments.made;
            case 3:
                return now.commitments.countOpen();
            case 4:
                return now.heads.countBarred();
            case 5:
                return now.carriedPart;
            case 6:
                return now.heads.sumWithin(ROOT, ALLOTMENTS);
            case 7:
                return now.lapsed;
            case 8:
                return now.spent;
            case 9:
                return memory.held;
            default:
                return INVALID_ARGUMENT;
        }
    }

    public int head(int head, int what) {
        Heads heads = now.heads;
        if (!heads.has(head)) {
            return INVALID_ARGUMENT;
        }
        switch (what) {
            case 0:
                return heads.above[head];
            case 1:
                return heads.depth[head];
            case 2:
                return heads.rank[head];
            case 3:
                return heads.frozen[head];
            case 4:
                return heads.isBarred(head) ? 1 : 0;
            case 5:
                return heads.allotment[head];
            case 6:
                return heads.committed[head];
            case 7:
                return heads.spent[head];
            case 8:
                return heads.freeOf(head);
            case 9:
                return heads.allotted[head];
            case 10:
                return heads.left[head];
            case 11:
                return heads.share[head];
            default:
                return INVALID_ARGUMENT;
        }
    }

    public int total(int head, int what) {
        if (!now.heads.has(head) || what < ALLOTMENTS || what > HEADS) {
            return INVALID_ARGUMENT;
        }
        return now.heads.sumWithin(head, what);
    }

    public int commitment(int commitment, int what) {
        Commitments commitments = now.commitments;
        if (!commitments.has(commitment)) {
            return INVALID_ARGUMENT;
        }
        switch (what) {
            case 0:
                return commitments.head[commitment];
            case 1:
                return commitments.open[commitment];
            case 2:
                return commitments.paid[commitment];
            case 3:
                return commitments.year[commitment];
            default:
                return INVALID_ARGUMENT;
        }
    }

    public int deed(int index) {
        if (index < 0) {
            return INVALID_ARGUMENT;
        }
        Deed deed = memory.recall(index);
        return deed == null ? NONE : deed.kind;
    }

    // ---- what could be, which changes nothing

    public int mostFrom(int from, int to) {
        if (!now.heads.hasBoth(from, to)) {
            return INVALID_ARGUMENT;
        }
        return now.heads.movable(from, to);
    }

    public int bestGiver(int to) {
        if (!now.heads.has(to)) {
            return INVALID_ARGUMENT;
        }
        return now.heads.giverOfMost(to);
    }

    public int richest(int head, int index) {
        if (!now.heads.has(head) || index < 0) {
            return INVALID_ARGUMENT;
        }
        return now.heads.atPlace(head, index);
    }

    public int wouldLapse(int head) {
        if (!now.heads.has(head)) {
            return INVALID_ARGUMENT;
        }
        return now.heads.lapseWithin(head, now.carriedPart);
    }

    private static boolean isAmount(int number) {
        return number >= 1 && number <= MOST_AT_ONCE;
    }

    private static boolean isPercentage(int number) {
        return number >= 0 && number <= PERCENT;
    }

    // By virements a head can come to have so much that the product outgrows an int.
    private static int partOf(int amount, int percentage) {
        return (int) ((long) amount * percentage / PERCENT);
    }

    /** The heads, with a row for each of their properties. */
    private static final class Heads {
        final int[] above = new int[MOST_HEADS];
        final int[] depth = new int[MOST_HEADS];
        final int[] rank = new int[MOST_HEADS];
        /* 1 for a head that is frozen, 0 for another one. */
        final int[] frozen = new int[MOST_HEADS];
        final int[] allotment = new int[MOST_HEADS];
        final int[] committed = new int[MOST_HEADS];
        final int[] spent = new int[MOST_HEADS];
        /* What was allotted in this year, and what left by virements in it. */
        final int[] allotted = new int[MOST_HEADS];
        final int[] left = new int[MOST_HEADS];
        final int[] share = new int[MOST_HEADS];
        int made;

        void copyFrom(Heads other) {
            System.arraycopy(other.above, 0, above, 0, MOST_HEADS);
            System.arraycopy(other.depth, 0, depth, 0, MOST_HEADS);
            System.arraycopy(other.rank, 0, rank, 0, MOST_HEADS);
            System.arraycopy(other.frozen, 0, frozen, 0, MOST_HEADS);
            System.arraycopy(other.allotment, 0, allotment, 0, MOST_HEADS);
            System.arraycopy(other.committed, 0, committed, 0, MOST_HEADS);
            System.arraycopy(other.spent, 0, spent, 0, MOST_HEADS);
            System.arraycopy(other.allotted, 0, allotted, 0, MOST_HEADS);
            System.arraycopy(other.left, 0, left, 0, MOST_HEADS);
            System.arraycopy(other.share, 0, share, 0, MOST_HEADS);
            made = other.made;
        }

        // What loops over all places asks this, or gets 0 or false, of those not made yet.
        boolean has(int head) {
            return head >= 0 && head < made && head < MOST_HEADS;
        }

        boolean hasBoth(int one, int other) {
            return has(one) && has(other) && one != other;
        }

        // The rows of a head that is not made yet are 0, and undoing makes them so again;
        // therefore only what a new head has beside no money is put.
        int add(int itsAbove, int itsRank) {
            int head = made;
            if (head < 0 || head >= MOST_HEADS) {
                return CAPACITY_EXCEEDED;
            }
            above[head] = itsAbove;
            depth[head] = has(itsAbove) ? depth[itsAbove] + 1 : 0;
            rank[head] = itsRank;
            share[head] = FIRST_SHARE;
            made++;
            return head;
        }

        int freeOf(int head) {
            return has(head) ? allotment[head] - committed[head] - spent[head] : 0;
        }

        boolean isBarred(int head) {
            int at = head;
            for (int step = 0; step <= GREATEST_DEPTH && has(at); step++) {
                if (frozen[at] == 1) {
                    return true;
                }
                at = above[at];
            }
            return false;
        }

        int countBarred() {
            int barred = 0;
            for (int head = 0; head < MOST_HEADS; head++) {
                if (isBarred(head)) {
                    barred++;
                }
            }
            return barred;
        }

        /** Whether a head is the top one or below it. */
        boolean isWithin(int head, int top) {
            int at = head;
            for (int step = 0; step <= GREATEST_DEPTH && has(at); step++) {
                if (at == top) {
                    return true;
                }
                at = above[at];
            }
            return false;
        }

        int sumWithin(int top, int what) {
            int sum = 0;
            for (int head = 0; head < MOST_HEADS; head++) {
                if (isWithin(head, top)) {
                    sum += summand(head, what);
                }
            }
            return sum;
        }

        private int summand(int head, int what) {
            if (!has(head)) {
                return 0;
            }
            switch (what) {
                case ALLOTMENTS:
                    return allotment[head];
                case COMMITTED:
                    return committed[head];
                case SPENT:
                    return spent[head];
                case FREE_MONEY:
                    return freeOf(head);
                default:
                    return 1;
            }
        }

        void changeCommitted(int head, int amount) {
            if (has(head)) {
                committed[head] += amount;
            }
        }

        void spendCommitted(int head, int amount) {
            if (has(head)) {
                committed[head] -= amount;
                spent[head] += amount;
            }
        }

        /** The greatest amount that one virement can move, 0 if none is allowed. */
        int movable(int from, int to) {
            if (!hasBoth(from, to) || !mayGive(from, to)) {
                return 0;
            }
            int leftOfShare = partOf(allotted[from], share[from]) - left[from];
            int most = Math.min(MOST_AT_ONCE, Math.min(freeOf(from), leftOfShare));
            return Math.max(0, most);
        }

        private boolean mayGive(int from, int to) {
            if (!hasBoth(from, to) || isBarred(from) || isBarred(to)) {
                return false;
            }
            boolean related = isWithin(from, to) || isWithin(to, from) || above[from] == above[to];
            return related || rank[from] <= rank[to];
        }

        /** Moves money from the giver to the taker; an amount below 0 takes a virement back. */
        void moveByVirement(int giver, int taker, int amount) {
            if (hasBoth(giver, taker)) {
                allotment[giver] -= amount;
                left[giver] += amount;
                allotment[taker] += amount;
            }
        }

        int giverOfMost(int to) {
            int best = NONE;
            int most = 0;
            for (int head = 0; head < MOST_HEADS; head++) {
                int amount = movable(head, to);
                if (amount > most || amount == most && has(best) && rank[head] > rank[best]) {
                    best = head;
                    most = amount;
                }
            }
            return best;
        }

        /** The head below the top one that has so many others ahead of it. */
        int atPlace(int top, int place) {
            for (int head = 0; head < MOST_HEADS; head++) {
                if (head != top && isWithin(head, top) && countAhead(head, top) == place) {
                    return head;
                }
            }
            return NONE;
        }

        private int countAhead(int head, int top) {
            int ahead = 0;
            for (int other = 0; other < MOST_HEADS; other++) {
                if (other != top && isWithin(other, top) && isRicher(other, head)) {
                    ahead++;
                }
            }
            return ahead;
        }

        private boolean isRicher(int one, int other) {
            if (!hasBoth(one, other)) {
                return false;
            }
            if (freeOf(one) != freeOf(other)) {
                return freeOf(one) > freeOf(other);
            }
            if (rank[one] != rank[other]) {
                return rank[one] > rank[other];
            }
            return one < other;
        }

        int lapseWithin(int top, int carriedPart) {
            int lapsing = 0;
            for (int head = 0; head < MOST_HEADS; head++) {
                if (isWithin(head, top)) {
                    int free = freeOf(head);
                    lapsing += free - partOf(free, carriedPart);
                }
            }
            return lapsing;
        }

        void carryForward(int carriedPart) {
            for (int head = 0; head < MOST_HEADS; head++) {
                int carried = partOf(freeOf(head), carriedPart);
                allotment[head] = committed[head] + carried;
                allotted[head] = carried;
                spent[head] = 0;
                left[head] = 0;
            }
        }
    }

    /** The commitments, with a row for each of their properties. */
    private static final class Commitments {
        final int[] head = new int[MOST_COMMITMENTS];
        final int[] open = new int[MOST_COMMITMENTS];
        final int[] paid = new int[MOST_COMMITMENTS];
        final int[] year = new int[MOST_COMMITMENTS];
        int made;

        void copyFrom(Commitments other) {
            System.arraycopy(other.head, 0, head, 0, MOST_COMMITMENTS);
            System.arraycopy(other.open, 0, open, 0, MOST_COMMITMENTS);
            System.arraycopy(other.paid, 0, paid, 0, MOST_COMMITMENTS);
            System.arraycopy(other.year, 0, year, 0, MOST_COMMITMENTS);
            made = other.made;
        }

        boolean has(int commitment) {
            return commitment >= 0 && commitment < made && commitment < MOST_COMMITMENTS;
        }

        int add(int itsHead, int amount, int itsYear) {
            int commitment = made;
            if (commitment < 0 || commitment >= MOST_COMMITMENTS) {
                return CAPACITY_EXCEEDED;
            }
            head[commitment] = itsHead;
            open[commitment] = amount;
            year[commitment] = itsYear;
            made++;
            return commitment;
        }

        int countOpen() {
            int some = 0;
            for (int commitment = 0; commitment < MOST_COMMITMENTS; commitment++) {
                if (open[commitment] > 0) {
                    some++;
                }
            }
            return some;
        }
    }

    /** All that a deed can change. */
    private static final class Books {
        final Heads heads = new Heads();
        final Commitments commitments = new Commitments();
        int year;
        int carriedPart = FIRST_CARRIED_PART;
        int lapsed;
        int spent;

        void copyFrom(Books other) {
            heads.copyFrom(other.heads);
            commitments.copyFrom(other.commitments);
            year = other.year;
            carriedPart = other.carriedPart;
            lapsed = other.lapsed;
            spent = other.spent;
        }

        /** Makes free again what is open of a commitment, and tells how much it was. */
        int freeOpenOf(int commitment) {
            if (!commitments.has(commitment)) {
                return 0;
            }
            int open = commitments.open[commitment];
            commitments.open[commitment] = 0;
            heads.changeCommitted(commitments.head[commitment], -open);
            return open;
        }
    }

    /** A deed that is remembered, with the books as they were before it. */
    private static final class Deed {
        final Books before = new Books();
        int number;
        int kind;
        /* The giver of a virement, the commitment made, or the number of the deed revoked. */
        int subject;
        int taker;
        int amount;
    }

    /** The latest deeds, in places that are used in a ring. */
    private static final class Memory {
        final Deed[] places = new Deed[MOST_DEEDS];
        int oldest;
        int held;
        int latestNumber;

        Memory() {
            for (int place = 0; place < MOST_DEEDS; place++) {
                places[place] = new Deed();
            }
        }

        /** The deed that is remembered at an index, 0 for the latest one; null if there is none. */
        Deed recall(int index) {
            if (index < 0 || index >= held) {
                return null;
            }
            return places[Math.floorMod(oldest + held - 1 - index, MOST_DEEDS)];
        }

        void remember(int kind, Books books) {
            rememberWith(kind, books, NONE, NONE, 0);
        }

        void rememberCommitment(Books books, int commitment) {
            rememberWith(COMMIT, books, commitment, NONE, 0);
        }

        void rememberVirement(Books books, int giver, int taker, int amount) {
            rememberWith(VIRE, books, giver, taker, amount);
        }

        void rememberRevoking(Books books, int number) {
            rememberWith(REVOKE, books, number, NONE, 0);
        }

        private void rememberWith(int kind, Books books, int subject, int taker, int amount) {
            if (held < MOST_DEEDS) {
                held++;
            } else {
                oldest = Math.floorMod(oldest + 1, MOST_DEEDS);
            }
            latestNumber++;
            Deed deed = recall(0);
            if (deed != null) {
                deed.before.copyFrom(books);
                deed.number = latestNumber;
                deed.kind = kind;
                deed.subject = subject;
                deed.taker = taker;
                deed.amount = amount;
            }
        }

        // No mark is kept with the deed revoked: undoing the revoking would have to find and
        // clear it. The revoking is later, so it is remembered as long as that deed is.
        boolean wasRevoked(int number) {
            for (int index = 0; index < MOST_DEEDS; index++) {
                Deed deed = recall(index);
                if (deed != null && deed.kind == REVOKE && deed.subject == number) {
                    return true;
                }
            }
            return false;
        }

        int forgetLatest() {
            if (held > 0) {
                held--;
            }
            return held;
        }
    }
}
