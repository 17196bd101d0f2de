/** The boundary cases of the promises 1 to 6: a new object, and the calls for heads. */
public final class BoundsOfHeadsTest {
    private static final Due DUE = new Due();

    private static Scene scene(int promise, String sentence) {
        return new Scene(DUE, promise, sentence);
    }

    public static void main(String[] args) {
        promise1();
        promise2();
        promise3();
        promise4();
        promise5();
        promise6();
        DUE.close("BoundsOfHeadsTest");
    }

    // ---- promise 1

    private static void promise1() {
        theRootIsAlone();
        theYearIs0();
        theRootHasRank0();
        theRootHasNoMoney();
        theFirstShareIs50();
        theFirstCarriedPartIs10();
        nothingIsFrozenYet();
        thereIsNoCommitmentYet();
        noDeedIsRememberedYet();
    }

    private static void theRootIsAlone() {
        Scene s = scene(1, "Creates a budget with the root alone");
        s.answers(1, "count", 1);
        s.answers(1, "total", 0, 4);
        s.none("head", 0, 0);
        s.answers(0, "head", 0, 1);
        s.none("richest", 0, 0);
        s.none("bestGiver", 0);
        s.invalidOutside(0, 0, "head", 0, 0, 1);
        s.invalid("mostFrom", 0, 0);
        s.end();
    }

    private static void theYearIs0() {
        Scene s = scene(1, "in the year 0");
        s.answers(0, "count", 0);
        s.end();
    }

    private static void theRootHasRank0() {
        Scene s = scene(1, "the root has the rank 0");
        s.answers(0, "head", 0, 2);
        s.end();
    }

    private static void theRootHasNoMoney() {
        Scene s = scene(1, "and no money");
        for (int what = 5; what <= 10; what++) {
            s.answers(0, "head", 0, what);
        }
        for (int what = 0; what <= 3; what++) {
            s.answers(0, "total", 0, what);
        }
        for (int what = 6; what <= 8; what++) {
            s.answers(0, "count", what);
        }
        s.illegal("commit", 0, 1);
        s.answers(0, "wouldLapse", 0);
        s.answers(0, "endYear");
        s.end();
    }

    private static void theFirstShareIs50() {
        Scene s = scene(1, "share (.. at first 50)");
        s.answers(50, "head", 0, 11);
        s.answers(1, "make", 0, 0);
        s.answers(50, "head", 1, 11);
        s.answers(50, "setShare", 1, 50);
        s.end();
    }

    private static void theFirstCarriedPartIs10() {
        Scene s = scene(1, "carried part (.. at first 10)");
        s.answers(10, "count", 5);
        s.answers(10, "setCarried", 10);
        s.end();
    }

    private static void nothingIsFrozenYet() {
        Scene s = scene(1, "the root alone: not frozen, not barred");
        s.answers(0, "head", 0, 3);
        s.answers(0, "head", 0, 4);
        s.answers(0, "count", 4);
        s.illegal("freeze", 0, 0);
        s.end();
    }

    private static void thereIsNoCommitmentYet() {
        Scene s = scene(1, "the root alone: no commitment");
        s.answers(0, "count", 2);
        s.answers(0, "count", 3);
        s.invalid("commitment", 0, 0);
        s.invalid("pay", 0, 1);
        s.invalid("release", 0);
        s.end();
    }

    private static void noDeedIsRememberedYet() {
        Scene s = scene(1, "the root alone: the root is not made by a deed");
        s.answers(0, "count", 9);
        s.none("deed", 0);
        s.illegal("undo");
        s.illegal("revoke", 0);
        s.answers(1, "count", 1);
        s.end();
    }

    // ---- promise 2

    private static void promise2() {
        aboveIsAHead();
        rankIs0To9();
        headsAreNumberedInTheirOrder();
        theGreatestDepthIs4();
        thereAreAtMost20Heads();
        makeInvalidBeforeIllegal();
        makeInvalidBeforeNoRoom();
        makeIllegalBeforeNoRoom();
        aNumberUndoneIsGivenAgain();
        theLast20thUndoneMakesRoom();
        aNewHeadIsBarredByThoseAbove();
    }

    private static void aboveIsAHead() {
        Scene s = scene(2, "above: a head");
        s.invalidOutside(0, 0, "make", 0, 0, 5);
        s.answers(1, "make", 0, 5);
        s.invalidOutside(0, 1, "make", 0, 0, 5);
        s.answers(2, "make", 1, 5);
        s.answers(1, "head", 2, 0);
        s.invalidOutside(0, 2, "make", 0, 0, 5);
        s.end();
    }

    private static void rankIs0To9() {
        Scene s = scene(2, "rank: 0 to 9");
        s.invalidOutside(0, 9, "make", 1, 0, 0);
        s.answers(1, "make", 0, 0);
        s.answers(2, "make", 0, 9);
        s.answers(0, "head", 1, 2);
        s.answers(9, "head", 2, 2);
        s.invalidOutside(0, 9, "make", 1, 2, 0);
        s.end();
    }

    private static void headsAreNumberedInTheirOrder() {
        Scene s = scene(2, "numbered from 0 in the order in which they were made");
        s.answers(1, "make", 0, 1);
        s.answers(2, "make", 1, 2);
        s.answers(3, "make", 0, 3);
        s.answers(4, "make", 1, 4);
        for (int head = 1; head <= 4; head++) {
            s.answers(head, "head", head, 2);
        }
        s.answers(5, "count", 1);
        s.end();
    }

    private static void theGreatestDepthIs4() {
        Scene s = scene(2, "ILLEGAL_STATE if the head above has the depth 4");
        for (int head = 1; head <= 4; head++) {
            s.answers(head, "make", head - 1, 1);
            s.answers(head, "head", head, 1);
        }
        s.illegal("make", 4, 1);
        s.answers(5, "make", 3, 1);
        s.answers(4, "head", 5, 1);
        s.illegal("make", 5, 1);
        s.answers(6, "count", 1);
        s.end();
    }

    private static void thereAreAtMost20Heads() {
        Scene s = scene(2, "CAPACITY_EXCEEDED if there are 20");
        for (int head = 1; head <= 19; head++) {
            s.answers(head, "make", 0, 1);
        }
        s.noRoom("make", 0, 1);
        s.noRoom("make", 19, 9);
        s.answers(20, "count", 1);
        s.answers(1, "head", 19, 1);
        s.invalidOutside(0, 19, "make", 0, 0, 1);
        s.end();
    }

    private static void makeInvalidBeforeIllegal() {
        Scene s = scene(2, "INVALID_ARGUMENT .. ILLEGAL_STATE, which is listed first");
        makeDownToDepth4(s);
        s.invalidOutside(0, 9, "make", 1, 4, 0);
        s.end();
    }

    private static void makeInvalidBeforeNoRoom() {
        Scene s = scene(2, "INVALID_ARGUMENT .. CAPACITY_EXCEEDED, which is listed first");
        fillWithHeads(s);
        s.invalidOutside(0, 9, "make", 1, 0, 0);
        s.invalidOutside(0, 19, "make", 0, 0, 0);
        s.end();
    }

    private static void makeIllegalBeforeNoRoom() {
        Scene s = scene(2, "ILLEGAL_STATE .. CAPACITY_EXCEEDED, which is listed first");
        fillWithHeads(s);
        s.illegal("make", 4, 0);
        s.noRoom("make", 3, 0);
        s.invalid("make", 4, 10);
        s.end();
    }

    private static void aNumberUndoneIsGivenAgain() {
        Scene s = scene(2, "Returns its number: of a head undone, to the next one");
        s.answers(1, "make", 0, 8);
        s.answers(70, "allot", 1, 70);
        s.answers(1, "freeze", 1, 1);
        s.answers(50, "setShare", 1, 20);
        s.answersInTurn(new int[] {3, 2, 1, 0}, "undo");
        s.invalid("head", 1, 2);
        s.answers(1, "make", 0, 3);
        int[] properties = {0, 1, 3, 0, 0, 0, 0, 0, 0, 0, 0, 50};
        for (int what = 0; what < properties.length; what++) {
            s.answers(properties[what], "head", 1, what);
        }
        s.end();
    }

    private static void theLast20thUndoneMakesRoom() {
        Scene s = scene(2, "if there are 20: not when the 20th is undone");
        fillWithHeads(s);
        s.noRoom("make", 0, 0);
        s.answers(11, "undo");
        s.answers(19, "count", 1);
        s.answers(19, "make", 3, 9);
        s.answers(4, "head", 19, 1);
        s.noRoom("make", 0, 0);
        s.end();
    }

    private static void aNewHeadIsBarredByThoseAbove() {
        Scene s = scene(2, "counts as barred if it, or any head above it, is frozen: a new one too");
        s.answers(1, "freeze", 0, 1);
        s.answers(1, "make", 0, 4);
        s.answers(0, "head", 1, 3);
        s.answers(1, "head", 1, 4);
        s.answers(2, "count", 4);
        s.end();
    }

    private static void makeDownToDepth4(Scene s) {
        for (int head = 1; head <= 4; head++) {
            s.answers(head, "make", head - 1, 1);
        }
    }

    private static void fillWithHeads(Scene s) {
        makeDownToDepth4(s);
        for (int head = 5; head <= 19; head++) {
            s.answers(head, "make", 0, 1);
        }
    }

    // ---- promise 3

    private static void promise3() {
        allotToAHead();
        allotFrom1To100000();
        anAllotmentMayBe1000000();
        theGreatestAmountAtTheEdge();
        virementsCanMakeItMore();
        aVirementAwayMakesRoom();
        whatIsCommittedOrSpentCountsInTheAllotment();
        eachHeadMayHaveThatMuch();
        allotInvalidBeforeNoRoom();
        aBarredHeadIsAllottedTo();
    }

    private static void allotToAHead() {
        Scene s = scene(3, "head: a head");
        s.invalidOutside(0, 0, "allot", 0, 0, 5);
        s.answers(5, "allot", 0, 5);
        s.answers(1, "make", 0, 1);
        s.answers(6, "allot", 1, 6);
        s.invalidOutside(0, 1, "allot", 0, 0, 5);
        s.end();
    }

    private static void allotFrom1To100000() {
        Scene s = scene(3, "amount: 1 to 100000");
        s.invalidOutside(1, 100000, "allot", 1, 0, 0);
        s.answers(1, "allot", 0, 1);
        s.answers(100001, "allot", 0, 100000);
        s.answers(100001, "head", 0, 5);
        s.answers(100001, "head", 0, 9);
        s.answers(2, "count", 9);
        s.end();
    }

    private static void anAllotmentMayBe1000000() {
        Scene s = scene(3, "CAPACITY_EXCEEDED if its allotment would be more than 1000000");
        allotTimes(s, 0, 9);
        s.answers(999999, "allot", 0, 99999);
        s.noRoom("allot", 0, 2);
        s.noRoom("allot", 0, 100000);
        s.answers(1000000, "allot", 0, 1);
        s.noRoom("allot", 0, 1);
        s.noRoom("allot", 0, 100000);
        s.answers(1000000, "head", 0, 5);
        s.end();
    }

    private static void theGreatestAmountAtTheEdge() {
        Scene s = scene(3, "more than 1000000, by the greatest amount");
        s.answers(1, "allot", 0, 1);
        for (int time = 1; time <= 9; time++) {
            s.answers(time * 100000 + 1, "allot", 0, 100000);
        }
        s.noRoom("allot", 0, 100000);
        s.answers(1000000, "allot", 0, 99999);
        s.end();
    }

    private static void virementsCanMakeItMore() {
        Scene s = scene(3, "(which virements can make it)");
        s.answers(1, "make", 0, 0);
        allotTimes(s, 0, 10);
        s.answers(200, "allot", 1, 200);
        s.answers(199, "vire", 1, 0, 1);
        s.answers(1000001, "head", 0, 5);
        s.noRoom("allot", 0, 1);
        s.answers(100, "vire", 1, 0, 99);
        s.answers(1000100, "head", 0, 5);
        s.noRoom("allot", 0, 1);
        s.end();
    }

    private static void aVirementAwayMakesRoom() {
        Scene s = scene(3, "more than 1000000: what left does not count");
        s.answers(1, "make", 0, 0);
        allotTimes(s, 0, 10);
        s.answers(999990, "vire", 0, 1, 10);
        s.noRoom("allot", 0, 11);
        s.answers(1000000, "allot", 0, 10);
        s.answers(1000010, "head", 0, 9);
        s.noRoom("allot", 0, 1);
        s.end();
    }

    private static void whatIsCommittedOrSpentCountsInTheAllotment() {
        Scene s = scene(3, "its allotment would be more than 1000000, not its free money");
        allotTimes(s, 0, 10);
        s.answers(0, "commit", 0, 100000);
        s.answers(40000, "pay", 0, 60000);
        s.noRoom("allot", 0, 1);
        s.answers(810000, "endYear");
        s.answers(130000, "head", 0, 5);
        s.answers(130001, "allot", 0, 1);
        s.end();
    }

    private static void eachHeadMayHaveThatMuch() {
        Scene s = scene(3, "its allotment, not a total");
        s.answers(1, "make", 0, 0);
        allotTimes(s, 0, 10);
        allotTimes(s, 1, 10);
        s.noRoom("allot", 1, 1);
        s.answers(2000000, "count", 6);
        s.end();
    }

    private static void allotInvalidBeforeNoRoom() {
        Scene s = scene(3, "INVALID_ARGUMENT .. CAPACITY_EXCEEDED, which is listed first");
        allotTimes(s, 0, 10);
        s.invalidOutside(1, 100000, "allot", 1, 0, 0);
        s.invalidOutside(0, 0, "allot", 0, 0, 1);
        s.end();
    }

    private static void aBarredHeadIsAllottedTo() {
        Scene s = scene(3, "a barred head can neither commit nor be a part of a virement: no more is barred");
        s.answers(1, "make", 0, 0);
        s.answers(2, "freeze", 0, 1);
        s.answers(5, "allot", 0, 5);
        s.answers(7, "allot", 1, 7);
        s.end();
    }

    private static void allotTimes(Scene s, int head, int times) {
        for (int time = 1; time <= times; time++) {
            s.answers(time * 100000, "allot", head, 100000);
        }
    }

    // ---- promise 4

    private static void promise4() {
        freezeAHead();
        is0Or1();
        itIsFrozenAlready();
        itIsNotFrozenAlready();
        aBarredHeadIsNotFrozenByThat();
        allHeadsAreBarred();
        noHeadIsBarred();
        aHeadFrozenTwiceOverCountsOnce();
        barredDownToDepth4();
        barredNotUpwardsNorBeside();
    }

    private static void freezeAHead() {
        Scene s = scene(4, "head: a head");
        s.invalidOutside(0, 0, "freeze", 0, 0, 1);
        s.answers(1, "make", 0, 1);
        s.invalidOutside(0, 1, "freeze", 0, 0, 1);
        s.invalidOutside(0, 1, "freeze", 0, 0, 0);
        s.answers(1, "freeze", 1, 1);
        s.end();
    }

    private static void is0Or1() {
        Scene s = scene(4, "is: 1 to freeze it, 0 to end this");
        s.invalidOutside(0, 1, "freeze", 1, 0, 0);
        s.answers(1, "freeze", 0, 1);
        s.invalidOutside(0, 1, "freeze", 1, 0, 0);
        s.answers(0, "freeze", 0, 0);
        s.answers(2, "count", 9);
        s.end();
    }

    private static void itIsFrozenAlready() {
        Scene s = scene(4, "ILLEGAL_STATE if it is so already: frozen");
        s.answers(1, "freeze", 0, 1);
        s.illegal("freeze", 0, 1);
        s.answers(0, "undo");
        s.answers(1, "freeze", 0, 1);
        s.end();
    }

    private static void itIsNotFrozenAlready() {
        Scene s = scene(4, "ILLEGAL_STATE if it is so already: not frozen");
        s.illegal("freeze", 0, 0);
        s.answers(1, "freeze", 0, 1);
        s.answers(0, "freeze", 0, 0);
        s.illegal("freeze", 0, 0);
        s.end();
    }

    private static void aBarredHeadIsNotFrozenByThat() {
        Scene s = scene(4, "frozen or not; it counts as barred if it, or any head above it, is frozen");
        s.answers(1, "make", 0, 1);
        s.answers(2, "freeze", 0, 1);
        s.illegal("freeze", 1, 0);
        s.answers(2, "freeze", 1, 1);
        s.answers(1, "freeze", 0, 0);
        s.answers(1, "head", 1, 4);
        s.answers(0, "head", 0, 4);
        s.answers(0, "freeze", 1, 0);
        s.end();
    }

    private static void allHeadsAreBarred() {
        Scene s = scene(4, "Returns the number of heads that are barred then: all 20");
        fillWithHeads(s);
        s.answers(20, "freeze", 0, 1);
        s.answers(20, "freeze", 19, 1);
        s.answers(1, "freeze", 0, 0);
        s.end();
    }

    private static void noHeadIsBarred() {
        Scene s = scene(4, "Returns the number of heads that are barred then: none");
        fillWithHeads(s);
        s.answers(1, "freeze", 19, 1);
        s.answers(0, "freeze", 19, 0);
        s.end();
    }

    private static void aHeadFrozenTwiceOverCountsOnce() {
        Scene s = scene(4, "the number of heads that are barred, by itself and from above");
        makeDownToDepth4(s);
        s.answers(1, "freeze", 4, 1);
        s.answers(3, "freeze", 2, 1);
        s.answers(4, "freeze", 1, 1);
        s.answers(4, "count", 4);
        s.answers(4, "freeze", 2, 0);
        s.answers(1, "freeze", 1, 0);
        s.answers(1, "head", 4, 4);
        s.answers(0, "head", 3, 4);
        s.end();
    }

    private static void barredDownToDepth4() {
        Scene s = scene(4, "barred if .. any head above it is frozen: from the root to the depth 4");
        makeDownToDepth4(s);
        for (int frozen = 0; frozen <= 4; frozen++) {
            s.answers(5 - frozen, "freeze", frozen, 1);
            for (int head = 0; head <= 4; head++) {
                s.answers(head >= frozen ? 1 : 0, "head", head, 4);
                s.answers(head == frozen ? 1 : 0, "head", head, 3);
            }
            s.answers(0, "freeze", frozen, 0);
        }
        s.end();
    }

    private static void barredNotUpwardsNorBeside() {
        Scene s = scene(4, "any head above it, not one below it nor one beside it");
        s.answers(1, "make", 0, 1);
        s.answers(2, "make", 0, 1);
        s.answers(3, "make", 1, 1);
        s.answers(2, "freeze", 1, 1);
        s.answers(0, "head", 0, 4);
        s.answers(0, "head", 2, 4);
        s.answers(1, "head", 3, 4);
        s.end();
    }

    // ---- promise 5

    private static void promise5() {
        setShareOfAHead();
        shareIs0To100();
        theSameShareIsADeedToo();
    }

    private static void setShareOfAHead() {
        Scene s = scene(5, "head: a head");
        s.invalidOutside(0, 0, "setShare", 0, 0, 20);
        s.answers(1, "make", 0, 1);
        s.invalidOutside(0, 1, "setShare", 0, 0, 20);
        s.answers(50, "setShare", 1, 20);
        s.answers(50, "head", 0, 11);
        s.answers(20, "head", 1, 11);
        s.end();
    }

    private static void shareIs0To100() {
        Scene s = scene(5, "share: 0 to 100");
        s.invalidOutside(0, 100, "setShare", 1, 0, 0);
        s.answers(50, "setShare", 0, 0);
        s.answers(0, "setShare", 0, 100);
        s.invalidOutside(0, 100, "setShare", 1, 0, 0);
        s.answers(100, "setShare", 0, 1);
        s.answers(1, "setShare", 0, 99);
        s.answers(99, "head", 0, 11);
        s.end();
    }

    private static void theSameShareIsADeedToo() {
        Scene s = scene(5, "Returns the previous share: the same one");
        s.answersEachTime(3, 50, "setShare", 0, 50);
        s.answers(3, "count", 9);
        s.answers(3, "deed", 0);
        s.end();
    }

    // ---- promise 6

    private static void promise6() {
        partIs0To100();
        theSamePartIsADeedToo();
    }

    private static void partIs0To100() {
        Scene s = scene(6, "part: 0 to 100");
        s.invalidOutside(0, 100, "setCarried", 0, 0);
        s.answers(10, "setCarried", 0);
        s.answers(0, "count", 5);
        s.answers(0, "setCarried", 100);
        s.invalidOutside(0, 100, "setCarried", 0, 0);
        s.answers(100, "setCarried", 1);
        s.answers(1, "setCarried", 99);
        s.answers(99, "count", 5);
        s.end();
    }

    private static void theSamePartIsADeedToo() {
        Scene s = scene(6, "Returns the previous part: the same one");
        s.answersEachTime(3, 10, "setCarried", 10);
        s.answers(3, "count", 9);
        s.answers(4, "deed", 0);
        s.end();
    }
}
