/** The boundary cases of the promises 7 to 9: commitments and payments. */
public final class BoundsOfMoneyTest {
    private static final Due DUE = new Due();

    private static Scene scene(int promise, String sentence) {
        return new Scene(DUE, promise, sentence);
    }

    public static void main(String[] args) {
        promise7();
        promise8();
        promise9();
        DUE.close("BoundsOfMoneyTest");
    }

    // ---- promise 7

    private static void promise7() {
        commitOfAHead();
        commitFrom1To100000();
        commitAllThatIsFree();
        freeMoneyIsNeitherCommittedNorSpent();
        whatCameByAVirementIsFree();
        aFrozenHeadCannotCommit();
        aHeadBelowAFrozenOneCannotCommit();
        aHeadAboveAFrozenOneCanCommit();
        thereAreAtMost40Commitments();
        numbersAreForGood();
        aCommitmentUndoneGivesItsNumberBack();
        commitInvalidBeforeIllegal();
        commitInvalidBeforeNoRoom();
        commitIllegalBeforeNoRoom();
    }

    private static void commitOfAHead() {
        Scene s = scene(7, "head: a head");
        s.answers(100, "allot", 0, 100);
        s.invalidOutside(0, 0, "commit", 0, 0, 5);
        s.answers(1, "make", 0, 1);
        s.answers(100, "allot", 1, 100);
        s.invalidOutside(0, 1, "commit", 0, 0, 5);
        s.answers(0, "commit", 0, 5);
        s.answers(1, "commit", 1, 6);
        s.answers(5, "head", 0, 6);
        s.answers(6, "head", 1, 6);
        s.end();
    }

    private static void commitFrom1To100000() {
        Scene s = scene(7, "amount: 1 to 100000");
        s.answers(100000, "allot", 0, 100000);
        s.answers(200000, "allot", 0, 100000);
        s.invalidOutside(1, 100000, "commit", 1, 0, 0);
        s.answers(0, "commit", 0, 1);
        s.answers(1, "commit", 0, 100000);
        s.answers(99999, "head", 0, 8);
        s.answers(1, "commitment", 0, 1);
        s.answers(100000, "commitment", 1, 1);
        s.end();
    }

    private static void commitAllThatIsFree() {
        Scene s = scene(7, "ILLEGAL_STATE if .. the amount is more than its free money");
        s.answers(10, "allot", 0, 10);
        s.illegal("commit", 0, 11);
        s.illegal("commit", 0, 100000);
        s.answers(0, "commit", 0, 10);
        s.answers(0, "head", 0, 8);
        s.illegal("commit", 0, 1);
        s.answers(11, "allot", 0, 1);
        s.illegal("commit", 0, 2);
        s.answers(1, "commit", 0, 1);
        s.end();
    }

    private static void freeMoneyIsNeitherCommittedNorSpent() {
        Scene s = scene(7, "free money is its allotment less its committed and its spent money");
        s.answers(100, "allot", 0, 100);
        s.answers(0, "commit", 0, 60);
        s.answers(40, "pay", 0, 20);
        s.answers(40, "head", 0, 8);
        s.illegal("commit", 0, 41);
        s.answers(1, "commit", 0, 40);
        s.answers(100, "head", 0, 5);
        s.answers(80, "head", 0, 6);
        s.answers(20, "head", 0, 7);
        s.answers(0, "head", 0, 8);
        s.end();
    }

    private static void whatCameByAVirementIsFree() {
        Scene s = scene(7, "free money: what came to it by virements is, what left it is not");
        s.answers(1, "make", 0, 0);
        s.answers(20, "allot", 0, 20);
        s.answers(10, "vire", 0, 1, 10);
        s.illegal("commit", 1, 11);
        s.answers(0, "commit", 1, 10);
        s.illegal("commit", 0, 11);
        s.answers(1, "commit", 0, 10);
        s.end();
    }

    private static void aFrozenHeadCannotCommit() {
        Scene s = scene(7, "ILLEGAL_STATE if the head is barred: it is frozen");
        s.answers(10, "allot", 0, 10);
        s.answers(1, "freeze", 0, 1);
        s.illegal("commit", 0, 1);
        s.answers(0, "freeze", 0, 0);
        s.answers(0, "commit", 0, 1);
        s.end();
    }

    private static void aHeadBelowAFrozenOneCannotCommit() {
        Scene s = scene(7, "ILLEGAL_STATE if the head is barred: the root above it is frozen");
        for (int head = 1; head <= 4; head++) {
            s.answers(head, "make", head - 1, 1);
        }
        s.answers(10, "allot", 4, 10);
        s.answers(5, "freeze", 0, 1);
        s.illegal("commit", 4, 1);
        s.answers(0, "freeze", 0, 0);
        s.answers(2, "freeze", 3, 1);
        s.illegal("commit", 4, 1);
        s.answers(0, "freeze", 3, 0);
        s.answers(0, "commit", 4, 1);
        s.end();
    }

    private static void aHeadAboveAFrozenOneCanCommit() {
        Scene s = scene(7, "ILLEGAL_STATE if the head is barred, which one below it or beside it does not do");
        s.answers(1, "make", 0, 1);
        s.answers(2, "make", 0, 1);
        s.answers(10, "allot", 0, 10);
        s.answers(10, "allot", 2, 10);
        s.answers(1, "freeze", 1, 1);
        s.answers(0, "commit", 0, 10);
        s.answers(1, "commit", 2, 10);
        s.end();
    }

    private static void thereAreAtMost40Commitments() {
        Scene s = scene(7, "CAPACITY_EXCEEDED if there are 40 commitments");
        commitTimes(s, 39);
        s.answers(39, "count", 2);
        s.answers(39, "commit", 0, 1);
        s.noRoom("commit", 0, 1);
        s.noRoom("commit", 0, 960);
        s.answers(40, "count", 2);
        s.answers(40, "count", 3);
        s.end();
    }

    private static void numbersAreForGood() {
        Scene s = scene(7, "numbered from 0 in the order in which they were made, for good");
        s.answers(1000, "allot", 0, 1000);
        s.answers(0, "commit", 0, 7);
        s.answers(7, "release", 0);
        s.answers(1, "commit", 0, 8);
        s.answers(0, "pay", 1, 8);
        s.answers(2, "commit", 0, 9);
        s.answers(9, "revoke", 0);
        for (int number = 3; number <= 39; number++) {
            s.answers(number, "commit", 0, 1);
        }
        for (int number = 3; number <= 39; number++) {
            s.answers(1, "release", number);
        }
        s.answers(0, "count", 3);
        s.answers(40, "count", 2);
        s.noRoom("commit", 0, 1);
        s.answers(0, "commitment", 39, 1);
        s.end();
    }

    private static void aCommitmentUndoneGivesItsNumberBack() {
        Scene s = scene(7, "if there are 40 commitments: not when the 40th is undone");
        commitTimes(s, 40);
        s.noRoom("commit", 0, 1);
        s.answers(11, "undo");
        s.invalid("commitment", 39, 1);
        s.answers(39, "commit", 0, 5);
        s.answers(5, "commitment", 39, 1);
        s.answers(0, "commitment", 39, 2);
        s.noRoom("commit", 0, 1);
        s.end();
    }

    private static void commitInvalidBeforeIllegal() {
        Scene s = scene(7, "INVALID_ARGUMENT .. ILLEGAL_STATE, which is listed first");
        s.answers(10, "allot", 0, 10);
        s.answers(1, "freeze", 0, 1);
        s.invalidOutside(1, 100000, "commit", 1, 0, 0);
        s.invalidOutside(0, 0, "commit", 0, 0, 11);
        s.answers(0, "freeze", 0, 0);
        s.invalid("commit", 0, 100001);
        s.end();
    }

    private static void commitInvalidBeforeNoRoom() {
        Scene s = scene(7, "INVALID_ARGUMENT .. CAPACITY_EXCEEDED, which is listed first");
        commitTimes(s, 40);
        s.invalidOutside(1, 100000, "commit", 1, 0, 0);
        s.invalidOutside(0, 0, "commit", 0, 0, 1);
        s.end();
    }

    private static void commitIllegalBeforeNoRoom() {
        Scene s = scene(7, "ILLEGAL_STATE .. CAPACITY_EXCEEDED, which is listed first");
        commitTimes(s, 40);
        s.illegal("commit", 0, 961);
        s.noRoom("commit", 0, 960);
        s.answers(1, "freeze", 0, 1);
        s.illegal("commit", 0, 1);
        s.end();
    }

    /** So many commitments of 1, of 1000 that the root has. */
    private static void commitTimes(Scene s, int times) {
        s.answers(1000, "allot", 0, 1000);
        for (int number = 0; number < times; number++) {
            s.answers(number, "commit", 0, 1);
        }
    }

    // ---- promise 8

    private static void promise8() {
        payOfACommitment();
        payFrom1To100000();
        payAllThatIsOpen();
        nothingIsLeftToPayOfWhatIsReleased();
        whatIsOpenOfOneIsNotOfAnother();
        aBarredHeadPays();
        whatIsCommittedCanBePaidYearsLater();
        payInvalidBeforeIllegal();
    }

    private static void payOfACommitment() {
        Scene s = scene(8, "commitment: a commitment");
        s.answers(100, "allot", 0, 100);
        s.invalid("pay", 0, 1);
        s.answers(0, "commit", 0, 5);
        s.invalidOutside(0, 0, "pay", 0, 0, 1);
        s.answers(1, "commit", 0, 5);
        s.invalidOutside(0, 1, "pay", 0, 0, 1);
        s.answers(4, "pay", 0, 1);
        s.answers(3, "pay", 1, 2);
        s.end();
    }

    private static void payFrom1To100000() {
        Scene s = scene(8, "amount: 1 to 100000");
        s.answers(100000, "allot", 0, 100000);
        s.answers(0, "commit", 0, 100000);
        s.invalidOutside(1, 100000, "pay", 1, 0, 0);
        s.answers(0, "pay", 0, 100000);
        s.answers(100000, "head", 0, 7);
        s.answers(2, "undo");
        s.answers(99999, "pay", 0, 1);
        s.end();
    }

    private static void payAllThatIsOpen() {
        Scene s = scene(8, "ILLEGAL_STATE if less is open");
        s.answers(100, "allot", 0, 100);
        s.answers(0, "commit", 0, 10);
        s.illegal("pay", 0, 11);
        s.illegal("pay", 0, 100000);
        s.answers(1, "pay", 0, 9);
        s.illegal("pay", 0, 2);
        s.answers(0, "pay", 0, 1);
        s.illegal("pay", 0, 1);
        s.answers(10, "commitment", 0, 2);
        s.answers(90, "head", 0, 8);
        s.end();
    }

    private static void nothingIsLeftToPayOfWhatIsReleased() {
        Scene s = scene(8, "if less is open: of what was released or revoked nothing is");
        s.answers(100, "allot", 0, 100);
        s.answers(0, "commit", 0, 10);
        s.answers(1, "commit", 0, 20);
        s.answers(20, "revoke", 0);
        s.answers(10, "release", 0);
        s.illegal("pay", 0, 1);
        s.illegal("pay", 1, 1);
        s.answersInTurn(new int[] {4, 3}, "undo");
        s.answers(0, "pay", 0, 10);
        s.answers(0, "pay", 1, 20);
        s.end();
    }

    private static void whatIsOpenOfOneIsNotOfAnother() {
        Scene s = scene(8, "so much of the open amount of a commitment becomes spent money: of that one");
        s.answers(100, "allot", 0, 100);
        s.answers(0, "commit", 0, 10);
        s.answers(1, "commit", 0, 20);
        s.illegal("pay", 0, 20);
        s.answers(0, "pay", 1, 20);
        s.answers(10, "commitment", 0, 1);
        s.answers(0, "commitment", 0, 2);
        s.answers(10, "head", 0, 6);
        s.answers(20, "head", 0, 7);
        s.end();
    }

    private static void aBarredHeadPays() {
        Scene s = scene(8, "what is committed can be paid and released all the same");
        s.answers(1, "make", 0, 1);
        s.answers(100, "allot", 1, 100);
        s.answers(0, "commit", 1, 10);
        s.answers(2, "freeze", 0, 1);
        s.answers(2, "freeze", 1, 1);
        s.answers(9, "pay", 0, 1);
        s.answers(0, "pay", 0, 9);
        s.end();
    }

    private static void whatIsCommittedCanBePaidYearsLater() {
        Scene s = scene(8, "what is committed stays committed");
        s.answers(100, "allot", 0, 100);
        s.answers(0, "commit", 0, 10);
        s.answers(81, "endYear");
        s.answers(9, "endYear");
        s.answers(10, "commitment", 0, 1);
        s.illegal("pay", 0, 11);
        s.answers(0, "pay", 0, 10);
        s.answers(10, "head", 0, 7);
        s.answers(10, "count", 8);
        s.end();
    }

    private static void payInvalidBeforeIllegal() {
        Scene s = scene(8, "INVALID_ARGUMENT .. ILLEGAL_STATE, which is listed first");
        s.answers(100, "allot", 0, 100);
        s.answers(0, "commit", 0, 10);
        s.invalid("pay", 0, 100001);
        s.invalid("pay", 1, 11);
        s.answers(10, "release", 0);
        s.invalidOutside(1, 100000, "pay", 1, 0, 0);
        s.end();
    }

    // ---- promise 9

    private static void promise9() {
        releaseOfACommitment();
        releaseTheLastUnit();
        nothingIsOpenOfWhatIsPaid();
        nothingIsOpenOfWhatIsReleased();
        nothingIsOpenOfWhatIsRevoked();
        aBarredHeadReleases();
        whatIsReleasedIsFreeButNotAllotted();
    }

    private static void releaseOfACommitment() {
        Scene s = scene(9, "INVALID_ARGUMENT if there is no such commitment");
        s.answers(100, "allot", 0, 100);
        s.invalid("release", 0);
        s.answers(0, "commit", 0, 5);
        s.invalidOutside(0, 0, "release", 0, 0);
        s.answers(1, "commit", 0, 6);
        s.invalidOutside(0, 1, "release", 0, 0);
        s.answers(6, "release", 1);
        s.answers(5, "release", 0);
        s.end();
    }

    private static void releaseTheLastUnit() {
        Scene s = scene(9, "Returns what was open of it");
        s.answers(100, "allot", 0, 100);
        s.answers(0, "commit", 0, 10);
        s.answers(1, "pay", 0, 9);
        s.answers(1, "release", 0);
        s.answers(91, "head", 0, 8);
        s.answers(9, "commitment", 0, 2);
        s.answers(9, "head", 0, 7);
        s.end();
    }

    private static void nothingIsOpenOfWhatIsPaid() {
        Scene s = scene(9, "ILLEGAL_STATE if nothing is open: all is paid");
        s.answers(100, "allot", 0, 100);
        s.answers(0, "commit", 0, 10);
        s.answers(0, "pay", 0, 10);
        s.illegal("release", 0);
        s.answers(2, "undo");
        s.answers(10, "release", 0);
        s.end();
    }

    private static void nothingIsOpenOfWhatIsReleased() {
        Scene s = scene(9, "ILLEGAL_STATE if nothing is open: it is released");
        s.answers(100, "allot", 0, 100);
        s.answers(0, "commit", 0, 10);
        s.answers(10, "release", 0);
        s.illegal("release", 0);
        s.answers(2, "undo");
        s.answers(10, "release", 0);
        s.end();
    }

    private static void nothingIsOpenOfWhatIsRevoked() {
        Scene s = scene(9, "ILLEGAL_STATE if nothing is open: it is revoked");
        s.answers(100, "allot", 0, 100);
        s.answers(0, "commit", 0, 10);
        s.answers(10, "revoke", 0);
        s.illegal("release", 0);
        s.answers(2, "undo");
        s.answers(10, "release", 0);
        s.end();
    }

    private static void aBarredHeadReleases() {
        Scene s = scene(9, "what is committed can be paid and released all the same");
        s.answers(1, "make", 0, 1);
        s.answers(100, "allot", 1, 100);
        s.answers(0, "commit", 1, 10);
        s.answers(2, "freeze", 0, 1);
        s.answers(2, "freeze", 1, 1);
        s.answers(10, "release", 0);
        s.answers(100, "head", 1, 8);
        s.illegal("commit", 1, 10);
        s.end();
    }

    private static void whatIsReleasedIsFreeButNotAllotted() {
        Scene s = scene(9, "all that is open becomes free again");
        s.answers(100, "allot", 0, 100);
        s.answers(0, "commit", 0, 40);
        s.answers(54, "endYear");
        s.answers(6, "head", 0, 9);
        s.answers(40, "release", 0);
        s.answers(46, "head", 0, 5);
        s.answers(46, "head", 0, 8);
        s.answers(6, "head", 0, 9);
        s.answers(42, "wouldLapse", 0);
        s.end();
    }
}
