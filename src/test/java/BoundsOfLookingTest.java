/** The boundary cases of the promises 14 to 18: the calls that look. */
public final class BoundsOfLookingTest {
    private static final Due DUE = new Due();

    private static Scene scene(int promise, String sentence) {
        return new Scene(DUE, promise, sentence);
    }

    public static void main(String[] args) {
        promise14();
        promise15();
        promise16();
        promise17();
        promise18();
        DUE.close("BoundsOfLookingTest");
    }

    private static void fillWithHeads(Scene s) {
        for (int head = 1; head <= 19; head++) {
            s.answers(head, "make", (head - 1) % 4, head % 10);
        }
    }

    /** So many commitments of 2, of 1000 that the root has. */
    private static void commitTimes(Scene s, int times) {
        s.answers(1000, "allot", 0, 1000);
        for (int number = 0; number < times; number++) {
            s.answers(number, "commit", 0, 2);
        }
    }

    // ---- promise 14

    private static void promise14() {
        whatOfCountIs0To9();
        countOfYears();
        countOfHeads();
        countOfCommitments();
        countOfOpenCommitments();
        countOfBarredHeads();
        theCarriedPart();
        theSumOfAllAllotments();
        allThatLapsedSoFar();
        allThatWasSpentSoFar();
        theNumberOfDeeds();
    }

    private static void whatOfCountIs0To9() {
        Scene s = scene(14, "INVALID_ARGUMENT if what is out of range");
        s.invalidOutside(0, 9, "count", 0, 0);
        int[] counts = {0, 1, 0, 0, 0, 10, 0, 0, 0, 0};
        for (int what = 0; what <= 9; what++) {
            s.answers(counts[what], "count", what);
        }
        s.end();
    }

    private static void countOfYears() {
        Scene s = scene(14, "0 the year: from 0 to 99");
        s.answers(0, "count", 0);
        s.answersEachTime(99, 0, "endYear");
        s.answers(99, "count", 0);
        s.illegal("endYear");
        s.answers(99, "count", 0);
        s.answers(11, "undo");
        s.answers(98, "count", 0);
        s.end();
    }

    private static void countOfHeads() {
        Scene s = scene(14, "1 the number of heads: from 1 to 20");
        s.answers(1, "count", 1);
        fillWithHeads(s);
        s.answers(20, "count", 1);
        s.noRoom("make", 0, 0);
        s.answers(11, "undo");
        s.answers(19, "count", 1);
        s.end();
    }

    private static void countOfCommitments() {
        Scene s = scene(14, "2 of commitments: from 0 to 40");
        s.answers(0, "count", 2);
        commitTimes(s, 40);
        s.answers(40, "count", 2);
        s.answers(2, "release", 0);
        s.answers(40, "count", 2);
        s.noRoom("commit", 0, 2);
        s.answersInTurn(new int[] {11, 10}, "undo");
        s.answers(39, "count", 2);
        s.end();
    }

    private static void countOfOpenCommitments() {
        Scene s = scene(14, "3 of commitments of which something is open: from 0 to 40");
        s.answers(0, "count", 3);
        commitTimes(s, 40);
        s.answers(40, "count", 3);
        s.answers(1, "pay", 39, 1);
        s.answers(40, "count", 3);
        s.answers(0, "pay", 39, 1);
        s.answers(39, "count", 3);
        s.answers(2, "release", 0);
        s.answers(38, "count", 3);
        s.answers(2, "revoke", 4);
        s.answers(37, "count", 3);
        s.answersInTurn(new int[] {11, 10, 9, 8}, "undo");
        s.answers(40, "count", 3);
        for (int number = 0; number < 40; number++) {
            s.answers(2, "release", number);
        }
        s.answers(0, "count", 3);
        s.end();
    }

    private static void countOfBarredHeads() {
        Scene s = scene(14, "4 of barred heads: from 0 to 20");
        s.answers(0, "count", 4);
        fillWithHeads(s);
        s.answers(0, "count", 4);
        s.answers(1, "freeze", 19, 1);
        s.answers(1, "count", 4);
        s.answers(20, "freeze", 0, 1);
        s.answers(20, "count", 4);
        s.answers(11, "undo");
        s.answers(1, "count", 4);
        s.end();
    }

    private static void theCarriedPart() {
        Scene s = scene(14, "5 the carried part: from 0 to 100");
        s.answers(10, "setCarried", 0);
        s.answers(0, "count", 5);
        s.answers(0, "setCarried", 100);
        s.answers(100, "count", 5);
        s.answers(1, "undo");
        s.answers(0, "count", 5);
        s.end();
    }

    private static void theSumOfAllAllotments() {
        Scene s = scene(14, "6 the sum of all allotments: of 20 heads with the most");
        fillWithHeads(s);
        for (int head = 0; head <= 19; head++) {
            for (int time = 1; time <= 10; time++) {
                s.answers(time * 100000, "allot", head, 100000);
            }
        }
        s.answers(20000000, "count", 6);
        s.answers(900000, "vire", 0, 1, 100000);
        s.answers(20000000, "count", 6);
        s.answers(18000000, "endYear");
        s.answers(2000000, "count", 6);
        s.end();
    }

    private static void allThatLapsedSoFar() {
        Scene s = scene(14, "7 all that lapsed so far: of all years");
        s.answers(0, "count", 7);
        s.answers(100, "allot", 0, 100);
        s.answers(90, "endYear");
        s.answers(90, "count", 7);
        s.answers(9, "endYear");
        s.answers(99, "count", 7);
        s.answers(1, "endYear");
        s.answers(0, "endYear");
        s.answers(100, "count", 7);
        s.answersInTurn(new int[] {4, 3, 2}, "undo");
        s.answers(90, "count", 7);
        s.answers(1, "undo");
        s.answers(0, "count", 7);
        s.end();
    }

    private static void allThatWasSpentSoFar() {
        Scene s = scene(14, "8 all that was spent so far: of all years");
        s.answers(0, "count", 8);
        s.answers(100, "allot", 0, 100);
        s.answers(0, "commit", 0, 60);
        s.answers(40, "pay", 0, 20);
        s.answers(20, "count", 8);
        s.answers(36, "endYear");
        s.answers(20, "count", 8);
        s.answers(0, "total", 0, 2);
        s.answers(39, "pay", 0, 1);
        s.answers(21, "count", 8);
        s.answers(39, "release", 0);
        s.answers(21, "count", 8);
        s.answersInTurn(new int[] {5, 4}, "undo");
        s.answers(20, "count", 8);
        s.answersInTurn(new int[] {3, 2}, "undo");
        s.answers(0, "count", 8);
        s.end();
    }

    private static void theNumberOfDeeds() {
        Scene s = scene(14, "9 the number of deeds that are remembered: from 0 to 12");
        for (int deeds = 0; deeds <= 14; deeds++) {
            s.answers(Math.min(deeds, 12), "count", 9);
            s.answers(10, "setCarried", 10);
        }
        s.answers(12, "count", 9);
        s.answers(11, "undo");
        s.answers(11, "count", 9);
        s.end();
    }

    // ---- promise 15

    private static void promise15() {
        headOfAHead();
        whatOfHeadIs0To11();
        onlyTheRootHasNoneAbove();
        depthsFrom0To4();
        aHeadsMoneyIsItsOwn();
        freeMoneyIsNeverBelow0();
        aShareAndARankAtTheirEnds();
    }

    private static void headOfAHead() {
        Scene s = scene(15, "INVALID_ARGUMENT if there is no such head");
        for (int what = 0; what <= 11; what++) {
            s.invalidOutside(0, 0, "head", 0, 0, what);
        }
        fillWithHeads(s);
        s.answers(9, "head", 19, 2);
        s.invalidOutside(0, 19, "head", 0, 0, 0);
        s.end();
    }

    private static void whatOfHeadIs0To11() {
        Scene s = scene(15, "INVALID_ARGUMENT if .. what is out of range");
        s.invalidOutside(0, 11, "head", 1, 0, 0);
        s.none("head", 0, 0);
        s.answers(50, "head", 0, 11);
        s.end();
    }

    private static void onlyTheRootHasNoneAbove() {
        Scene s = scene(15, "0 the head above it (NONE for the root)");
        s.none("head", 0, 0);
        s.answers(1, "make", 0, 0);
        s.answers(2, "make", 1, 0);
        s.none("head", 0, 0);
        s.answers(0, "head", 1, 0);
        s.answers(1, "head", 2, 0);
        s.invalid("head", 3, 0);
        s.end();
    }

    private static void depthsFrom0To4() {
        Scene s = scene(15, "1 its depth: from 0 to 4");
        s.answers(0, "head", 0, 1);
        for (int head = 1; head <= 4; head++) {
            s.answers(head, "make", head - 1, 0);
            s.answers(head, "head", head, 1);
        }
        s.end();
    }

    private static void aHeadsMoneyIsItsOwn() {
        Scene s = scene(15, "Each head has an allotment, committed money, and spent money: not of those below it");
        s.answers(1, "make", 0, 0);
        s.answers(2, "make", 1, 0);
        s.answers(100, "allot", 2, 100);
        s.answers(0, "commit", 2, 30);
        s.answers(20, "pay", 0, 10);
        int[] money = {100, 20, 10, 70, 100, 0};
        for (int what = 5; what <= 10; what++) {
            s.answers(0, "head", 0, what);
            s.answers(0, "head", 1, what);
            s.answers(money[what - 5], "head", 2, what);
        }
        s.end();
    }

    private static void freeMoneyIsNeverBelow0() {
        Scene s = scene(15, "free money is .. never below 0");
        s.answers(1, "make", 0, 0);
        s.answers(10, "allot", 0, 10);
        s.answers(0, "commit", 0, 5);
        s.answers(0, "vire", 0, 1, 5);
        s.answers(0, "head", 0, 8);
        s.illegal("commit", 0, 1);
        s.illegal("vire", 0, 1, 1);
        s.answers(1, "commit", 1, 5);
        s.answers(0, "head", 1, 8);
        s.end();
    }

    private static void aShareAndARankAtTheirEnds() {
        Scene s = scene(15, "2 its rank, .. 11 its share: the least and the most");
        s.answers(1, "make", 0, 9);
        s.answers(0, "head", 0, 2);
        s.answers(9, "head", 1, 2);
        s.answers(50, "setShare", 0, 0);
        s.answers(50, "setShare", 1, 100);
        s.answers(0, "head", 0, 11);
        s.answers(100, "head", 1, 11);
        s.end();
    }

    // ---- promise 16

    private static void promise16() {
        totalOfAHead();
        whatOfTotalIs0To4();
        aHeadWithNoneBelow();
        totalsDownToDepth4();
        totalsOf20Heads();
        totalsAfterAYear();
    }

    private static void totalOfAHead() {
        Scene s = scene(16, "INVALID_ARGUMENT if there is no such head");
        s.invalidOutside(0, 0, "total", 0, 0, 4);
        fillWithHeads(s);
        s.answers(1, "total", 19, 4);
        s.invalidOutside(0, 19, "total", 0, 0, 4);
        s.end();
    }

    private static void whatOfTotalIs0To4() {
        Scene s = scene(16, "INVALID_ARGUMENT if .. what is out of range");
        s.invalidOutside(0, 4, "total", 1, 0, 0);
        s.answers(0, "total", 0, 0);
        s.answers(1, "total", 0, 4);
        s.end();
    }

    private static void aHeadWithNoneBelow() {
        Scene s = scene(16, "the sum of something over the head and all heads below it: the head alone");
        s.answers(1, "make", 0, 0);
        s.answers(2, "make", 0, 0);
        s.answers(100, "allot", 1, 100);
        s.answers(7, "allot", 0, 7);
        s.answers(9, "allot", 2, 9);
        s.answers(0, "commit", 1, 30);
        s.answers(20, "pay", 0, 10);
        int[] totals = {100, 20, 10, 70, 1};
        for (int what = 0; what <= 4; what++) {
            s.answers(totals[what], "total", 1, what);
        }
        s.end();
    }

    private static void totalsDownToDepth4() {
        Scene s = scene(16, "the head and all heads below it: from the root to the depth 4");
        for (int head = 1; head <= 4; head++) {
            s.answers(head, "make", head - 1, 0);
        }
        s.answers(5, "make", 1, 0);
        int[] amounts = {100, 200, 400, 800, 1600, 3200};
        for (int head = 0; head <= 5; head++) {
            s.answers(amounts[head], "allot", head, amounts[head]);
        }
        int[] totals = {6300, 6200, 2800, 2400, 1600, 3200};
        int[] heads = {6, 5, 3, 2, 1, 1};
        for (int head = 0; head <= 5; head++) {
            s.answers(totals[head], "total", head, 0);
            s.answers(totals[head], "total", head, 3);
            s.answers(heads[head], "total", head, 4);
        }
        s.end();
    }

    private static void totalsOf20Heads() {
        Scene s = scene(16, "4 of heads: from 1 to 20");
        s.answers(1, "total", 0, 4);
        fillWithHeads(s);
        s.answers(20, "total", 0, 4);
        s.answers(15, "total", 1, 4);
        s.answers(10, "total", 2, 4);
        s.answers(5, "total", 3, 4);
        s.answers(1, "total", 4, 4);
        s.end();
    }

    private static void totalsAfterAYear() {
        Scene s = scene(16, "0 of allotments, 1 of committed, 2 of spent, 3 of free money: in a new year");
        s.answers(1, "make", 0, 0);
        s.answers(100, "allot", 0, 100);
        s.answers(100, "allot", 1, 100);
        s.answers(0, "commit", 1, 30);
        s.answers(20, "pay", 0, 10);
        s.answers(90 + 63, "endYear");
        int[] totals = {37, 20, 0, 17, 2};
        for (int what = 0; what <= 4; what++) {
            s.answers(totals[what], "total", 0, what);
        }
        s.end();
    }

    // ---- promise 17

    private static void promise17() {
        commitmentOfACommitment();
        whatOfCommitmentIs0To3();
        whatIsOpenAndPaid();
        theYearInWhichItWasMade();
        ofWhicheverHead();
    }

    private static void commitmentOfACommitment() {
        Scene s = scene(17, "INVALID_ARGUMENT if there is no such commitment");
        s.invalid("commitment", 0, 0);
        commitTimes(s, 1);
        s.invalidOutside(0, 0, "commitment", 0, 0, 1);
        for (int number = 1; number <= 39; number++) {
            s.answers(number, "commit", 0, 2);
        }
        s.answers(2, "commitment", 39, 1);
        s.invalidOutside(0, 39, "commitment", 0, 0, 1);
        s.end();
    }

    private static void whatOfCommitmentIs0To3() {
        Scene s = scene(17, "INVALID_ARGUMENT if .. what is out of range");
        s.answers(0, "endYear");
        commitTimes(s, 1);
        s.invalidOutside(0, 3, "commitment", 1, 0, 0);
        s.answers(0, "commitment", 0, 0);
        s.answers(1, "commitment", 0, 3);
        s.end();
    }

    private static void whatIsOpenAndPaid() {
        Scene s = scene(17, "1 what is open of it, 2 what was paid of it: nothing, and all");
        s.answers(100, "allot", 0, 100);
        s.answers(0, "commit", 0, 30);
        s.answers(30, "commitment", 0, 1);
        s.answers(0, "commitment", 0, 2);
        s.answers(1, "pay", 0, 29);
        s.answers(1, "commitment", 0, 1);
        s.answers(29, "commitment", 0, 2);
        s.answers(0, "pay", 0, 1);
        s.answers(0, "commitment", 0, 1);
        s.answers(30, "commitment", 0, 2);
        s.end();
    }

    private static void theYearInWhichItWasMade() {
        Scene s = scene(17, "3 the year in which it was made: from 0 to 99");
        s.answers(100, "allot", 0, 100);
        s.answers(10, "setCarried", 100);
        s.answers(0, "commit", 0, 1);
        s.answersEachTime(99, 0, "endYear");
        s.answers(1, "commit", 0, 1);
        s.answers(0, "commitment", 0, 3);
        s.answers(99, "commitment", 1, 3);
        s.answers(0, "pay", 0, 1);
        s.answers(0, "commitment", 0, 3);
        s.end();
    }

    private static void ofWhicheverHead() {
        Scene s = scene(17, "0 its head: from 0 to 19");
        fillWithHeads(s);
        s.answers(10, "allot", 0, 10);
        s.answers(10, "allot", 19, 10);
        s.answers(0, "commit", 19, 1);
        s.answers(1, "commit", 0, 1);
        s.answers(19, "commitment", 0, 0);
        s.answers(0, "commitment", 1, 0);
        s.end();
    }

    // ---- promise 18

    private static void promise18() {
        indexOfDeedIsNotNegative();
        notSoManyDeedsAreRemembered();
        invalidBeforeNone();
        elevenKinds();
        theOldestOf12Deeds();
    }

    private static void indexOfDeedIsNotNegative() {
        Scene s = scene(18, "INVALID_ARGUMENT if index is negative");
        s.answers(10, "setCarried", 10);
        s.invalid("deed", -1);
        s.invalid("deed", -9);
        s.invalid("deed", Integer.MIN_VALUE);
        s.answers(4, "deed", 0);
        s.end();
    }

    private static void notSoManyDeedsAreRemembered() {
        Scene s = scene(18, "NONE if not so many deeds are remembered");
        for (int deeds = 0; deeds <= 13; deeds++) {
            s.none("deed", Math.min(deeds, 12));
            s.none("deed", 13);
            s.none("deed", Integer.MAX_VALUE);
            s.answers(10, "setCarried", 10);
            s.answers(4, "deed", Math.min(deeds, 11));
        }
        s.answers(11, "undo");
        s.none("deed", 11);
        s.answers(4, "deed", 10);
        s.end();
    }

    private static void invalidBeforeNone() {
        Scene s = scene(18, "NONE is no error, and it is returned only if no error condition applies");
        s.invalid("deed", -1);
        s.invalid("deed", Integer.MIN_VALUE);
        s.none("deed", 0);
        s.end();
    }

    private static void elevenKinds() {
        Scene s = scene(18, "Returns 0 make, .. 10 revoke");
        s.answers(0, "endYear");
        s.answers(1, "make", 0, 0);
        s.answers(100, "allot", 0, 100);
        s.answers(1, "freeze", 1, 1);
        s.answers(50, "setShare", 0, 100);
        s.answers(10, "setCarried", 0);
        s.answers(0, "commit", 0, 30);
        s.answers(20, "pay", 0, 10);
        s.answers(20, "release", 0);
        s.answers(0, "freeze", 1, 0);
        s.answers(80, "vire", 0, 1, 10);
        s.answers(90, "endYear");
        int[] latestFirst = {9, 8, 2, 7, 6, 5, 4, 3, 2, 1, 0, 9};
        for (int index = 0; index <= 11; index++) {
            s.answers(latestFirst[index], "deed", index);
        }
        s.answers(11, "undo");
        s.answers(10, "revoke", 0);
        s.answers(10, "deed", 0);
        s.answers(8, "deed", 1);
        s.end();
    }

    private static void theOldestOf12Deeds() {
        Scene s = scene(18, "0 for the latest one, and so on: to the oldest of 12");
        s.answers(1, "make", 0, 0);
        s.answers(5, "allot", 0, 5);
        s.answersEachTime(10, 10, "setCarried", 10);
        s.answers(0, "deed", 11);
        s.answers(1, "deed", 10);
        s.answers(4, "deed", 0);
        s.answers(50, "setShare", 0, 50);
        s.answers(3, "deed", 0);
        s.answers(1, "deed", 11);
        s.none("deed", 12);
        s.answers(10, "setCarried", 10);
        s.answers(4, "deed", 11);
        s.answers(11, "undo");
        s.answers(4, "deed", 10);
        s.none("deed", 11);
        s.end();
    }
}
