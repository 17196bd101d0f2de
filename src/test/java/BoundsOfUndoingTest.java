/** The boundary cases of the promises 12 and 13: what is remembered, undoing, and revoking. */
public final class BoundsOfUndoingTest {
    private static final Due DUE = new Due();

    private static Scene scene(int promise, String sentence) {
        return new Scene(DUE, promise, sentence);
    }

    public static void main(String[] args) {
        promise12();
        whatIsUndone();
        promise13();
        whatCannotBeRevoked();
        revokingAndUndoing();
        revokingAndForgetting();
        DUE.close("BoundsOfUndoingTest");
    }

    // ---- promise 12

    private static void promise12() {
        noDeedIsRemembered();
        allDeedsAreUndone();
        oneDeedIsRemembered();
        twelveDeedsAreRemembered();
        theThirteenthPushesOutTheFirst();
        whatIsForgottenDoesNotComeBack();
        manyDeedsGoRound();
        undoingIsNoDeed();
        lookingIsNoDeed();
        aRefusedCallIsNoDeed();
        the512thCallIsAnsweredToo();
    }

    private static void noDeedIsRemembered() {
        Scene s = scene(12, "ILLEGAL_STATE if none is");
        s.illegal("undo");
        s.illegal("undo");
        s.answers(0, "count", 9);
        s.answers(5, "allot", 0, 5);
        s.answers(0, "undo");
        s.end();
    }

    private static void allDeedsAreUndone() {
        Scene s = scene(12, "ILLEGAL_STATE if none is: not any more");
        s.answers(5, "allot", 0, 5);
        s.answers(7, "allot", 0, 2);
        s.answersInTurn(new int[] {1, 0}, "undo");
        s.illegal("undo");
        s.none("deed", 0);
        s.answers(0, "head", 0, 5);
        s.end();
    }

    private static void oneDeedIsRemembered() {
        Scene s = scene(12, "Undoes the latest deed that is remembered; it is not remembered any more");
        s.answers(5, "allot", 0, 5);
        s.answers(50, "setShare", 0, 9);
        s.answers(1, "undo");
        s.answers(1, "deed", 0);
        s.none("deed", 1);
        s.answers(50, "head", 0, 11);
        s.answers(5, "head", 0, 5);
        s.end();
    }

    private static void twelveDeedsAreRemembered() {
        Scene s = scene(12, "as the latest 12: the twelfth");
        allotOnes(s, 1, 12);
        s.answers(12, "count", 9);
        s.answers(1, "deed", 11);
        s.none("deed", 12);
        for (int left = 11; left >= 0; left--) {
            s.answers(left, "undo");
            s.answers(left, "head", 0, 5);
        }
        s.illegal("undo");
        s.end();
    }

    private static void theThirteenthPushesOutTheFirst() {
        Scene s = scene(12, "as the latest 12: the thirteenth");
        s.answers(1, "make", 0, 1);
        allotOnes(s, 1, 11);
        s.answers(0, "deed", 11);
        allotOnes(s, 12, 12);
        s.answers(12, "count", 9);
        s.answers(1, "deed", 11);
        s.none("deed", 12);
        for (int left = 11; left >= 0; left--) {
            s.answers(left, "undo");
            s.answers(left, "head", 0, 5);
        }
        s.illegal("undo");
        s.answers(2, "count", 1);
        s.end();
    }

    private static void whatIsForgottenDoesNotComeBack() {
        Scene s = scene(12, "a deed that is not remembered any more does not come back by it");
        allotOnes(s, 1, 14);
        s.answers(11, "undo");
        s.answers(11, "count", 9);
        s.none("deed", 11);
        s.answers(14, "allot", 0, 1);
        s.answers(12, "count", 9);
        s.answersInTurn(new int[] {11, 10, 9, 8, 7, 6, 5, 4, 3, 2, 1, 0}, "undo");
        s.illegal("undo");
        s.answers(2, "head", 0, 5);
        s.answers(3, "allot", 0, 1);
        s.answers(0, "undo");
        s.illegal("undo");
        s.answers(2, "head", 0, 5);
        s.end();
    }

    private static void manyDeedsGoRound() {
        Scene s = scene(12, "as the latest 12: of fifty");
        allotOnes(s, 1, 50);
        for (int left = 11; left >= 6; left--) {
            s.answers(left, "undo");
        }
        s.answers(44, "head", 0, 5);
        allotOnes(s, 45, 53);
        s.answers(12, "count", 9);
        for (int left = 11; left >= 0; left--) {
            s.answers(left, "undo");
            s.answers(41 + left, "head", 0, 5);
        }
        s.illegal("undo");
        s.end();
    }

    private static void undoingIsNoDeed() {
        Scene s = scene(12, "Returns the number of deeds that are remembered then");
        allotOnes(s, 1, 3);
        s.answers(2, "undo");
        s.answers(1, "deed", 0);
        s.answers(1, "undo");
        s.answers(1, "head", 0, 5);
        s.answers(1, "count", 9);
        s.end();
    }

    private static void lookingIsNoDeed() {
        Scene s = scene(12, "The calls of methods that are called deeds are remembered: no others");
        s.answers(1, "make", 0, 0);
        s.answers(10, "allot", 0, 10);
        s.answers(2, "count", 1);
        s.answers(10, "head", 0, 5);
        s.answers(10, "total", 0, 0);
        s.answers(1, "deed", 0);
        s.answers(5, "mostFrom", 0, 1);
        s.answers(0, "bestGiver", 1);
        s.answers(1, "richest", 0, 0);
        s.answers(9, "wouldLapse", 0);
        s.answers(2, "count", 9);
        s.answers(1, "undo");
        s.answers(0, "head", 0, 5);
        s.end();
    }

    private static void aRefusedCallIsNoDeed() {
        Scene s = scene(12, "are remembered, if they return no error");
        s.answers(10, "allot", 0, 10);
        s.invalid("make", 1, 0);
        s.invalid("allot", 0, 0);
        s.illegal("freeze", 0, 0);
        s.invalid("setShare", 0, 101);
        s.invalid("setCarried", 101);
        s.illegal("commit", 0, 11);
        s.invalid("pay", 0, 1);
        s.invalid("release", 0);
        s.invalid("vire", 0, 0, 1);
        s.illegal("revoke", 0);
        s.invalid("revoke", -1);
        s.answers(1, "count", 9);
        s.answers(0, "undo");
        s.answers(0, "head", 0, 5);
        s.end();
    }

    private static void the512thCallIsAnsweredToo() {
        String title = "Promise 12 \"An object is used for at most 512 calls\": ";
        HeadBudgets x = new HeadBudgets();
        for (int call = 1; call <= 510; call++) {
            DUE.is(title + "call " + call, x.allot(0, 1), call);
        }
        DUE.is(title + "call 511", x.undo(), 11);
        DUE.is(title + "call 512", x.allot(0, 10), 519);
    }

    /** Allots 1 to the root, the first time and so on to the last time. */
    private static void allotOnes(Scene s, int first, int last) {
        for (int time = first; time <= last; time++) {
            s.answers(time, "allot", 0, 1);
        }
    }

    // ---- promise 12: every kind of deed

    private static void whatIsUndone() {
        undone(2, "make", 1, 3);
        undone(117, "allot", 0, 37);
        undone(2, "freeze", 0, 1);
        undone(50, "setShare", 1, 0);
        undone(10, "setCarried", 100);
        undone(1, "commit", 0, 40);
        undone(0, "pay", 0, 10);
        undone(10, "release", 0);
        undone(55, "vire", 0, 1, 10);
        undone(59 + 18, "endYear");
        undone(20, "revoke", 1);
        undone(10, "revoke", 2);
        anUndoneEndOfTheYear();
        anUndoneFreezingOfAGroup();
    }

    private static void undone(int want, String name, int... with) {
        Scene s = scene(12, "What undo() undoes is as if it had never been called");
        s.answers(1, "make", 0, 4);
        s.answers(100, "allot", 0, 100);
        s.answers(0, "commit", 0, 15);
        s.answers(65, "vire", 0, 1, 20);
        s.answers(10, "pay", 0, 5);
        s.asIfNever(want, 5, name, with);
        s.end();
    }

    private static void anUndoneEndOfTheYear() {
        Scene s = scene(12, "as if it had never been called: the end of a year");
        s.answers(1, "make", 0, 0);
        s.answers(100, "allot", 0, 100);
        s.answers(0, "commit", 0, 50);
        s.answers(20, "pay", 0, 30);
        s.answers(40, "vire", 0, 1, 10);
        s.answers(36 + 9, "endYear");
        s.answers(5, "undo");
        int[] properties = {90, 20, 30, 40, 100, 10};
        for (int what = 5; what <= 10; what++) {
            s.answers(properties[what - 5], "head", 0, what);
        }
        s.answers(0, "count", 0);
        s.answers(0, "count", 7);
        s.answers(30, "count", 8);
        s.answers(10, "revoke", 0);
        s.end();
    }

    private static void anUndoneFreezingOfAGroup() {
        Scene s = scene(12, "as if it had never been called: the freezing of a group");
        s.answers(1, "make", 0, 0);
        s.answers(2, "make", 1, 0);
        s.answers(1, "freeze", 2, 1);
        s.answers(2, "freeze", 1, 1);
        s.answers(1, "freeze", 1, 0);
        s.answers(4, "undo");
        s.answers(2, "count", 4);
        s.answers(3, "undo");
        s.answers(1, "count", 4);
        s.answers(1, "head", 2, 3);
        s.answers(2, "undo");
        s.answers(0, "count", 4);
        s.end();
    }

    // ---- promise 13: what is moved back

    private static void promise13() {
        indexIsNotNegative();
        notSoManyDeedsAreRemembered();
        aVirementIsMovedBack();
        whateverBarsIt();
        whateverTheRanksAndShares();
        whateverHasBeenDoneSince();
        theGiverMayComeToHaveMore();
        whatWasMovedBackMayLeaveAgain();
        whatIsOpenOfACommitmentIsReleased();
        theLastUnitOfACommitment();
        aRevokedCommitmentKeepsItsNumber();
        aCommitmentOfABarredHead();
        revokingIsADeed();
    }

    private static void indexIsNotNegative() {
        Scene s = scene(13, "INVALID_ARGUMENT if index is negative");
        s.invalid("revoke", -1);
        s.invalid("revoke", Integer.MIN_VALUE);
        s.answers(10, "allot", 0, 10);
        s.answers(0, "commit", 0, 10);
        s.invalid("revoke", -1);
        s.invalid("revoke", Integer.MIN_VALUE);
        s.answers(10, "revoke", 0);
        s.end();
    }

    private static void notSoManyDeedsAreRemembered() {
        Scene s = scene(13, "ILLEGAL_STATE if not so many deeds are remembered");
        s.illegal("revoke", 0);
        s.answers(10, "allot", 0, 10);
        s.answers(0, "commit", 0, 1);
        s.answers(1, "commit", 0, 2);
        s.illegal("revoke", 3);
        s.illegal("revoke", 12);
        s.illegal("revoke", Integer.MAX_VALUE);
        s.answers(1, "revoke", 1);
        s.answers(2, "revoke", 1);
        s.answersInTurn(new int[] {4, 3, 2, 1}, "undo");
        s.illegal("revoke", 1);
        s.end();
    }

    private static void aVirementIsMovedBack() {
        Scene s = scene(13, "the amount is moved back, .. and what left the giving head .. becomes less by it");
        virement(s, 30);
        s.answers(30, "revoke", 0);
        int[] giver = {100, 0, 0, 100, 100, 0};
        int[] taker = {0, 0, 0, 0, 0, 0};
        for (int what = 5; what <= 10; what++) {
            s.answers(giver[what - 5], "head", 1, what);
            s.answers(taker[what - 5], "head", 2, what);
        }
        s.end();
    }

    /** Two heads below the root; 1 has 100, of which so much is moved to 2. */
    private static void virement(Scene s, int amount) {
        s.answers(1, "make", 0, 1);
        s.answers(2, "make", 0, 1);
        s.answers(100, "allot", 1, 100);
        s.answers(100 - amount, "vire", 1, 2, amount);
    }

    private static void whateverBarsIt() {
        for (int frozen = 0; frozen <= 2; frozen++) {
            Scene s = scene(13, "the amount is moved back, whatever bars it: a frozen head");
            virement(s, 30);
            s.answers(frozen == 0 ? 3 : 1, "freeze", frozen, 1);
            s.illegal("vire", 1, 2, 1);
            s.answers(30, "revoke", 1);
            s.answers(100, "head", 1, 8);
            s.answers(0, "head", 2, 8);
            s.end();
        }
    }

    private static void whateverTheRanksAndShares() {
        Scene s = scene(13, "whatever bars it: the ranks, and the shares of what was allotted");
        s.answers(1, "make", 0, 1);
        s.answers(2, "make", 1, 2);
        s.answers(3, "make", 0, 9);
        s.answers(100, "allot", 2, 100);
        s.answers(60, "vire", 2, 3, 40);
        s.answers(50, "setShare", 3, 0);
        s.answers(50, "setShare", 2, 0);
        s.illegal("vire", 3, 2, 1);
        s.answers(40, "revoke", 2);
        s.answers(100, "head", 2, 8);
        s.end();
    }

    private static void whateverHasBeenDoneSince() {
        Scene s = scene(13, "whatever has been done since, if what it moved can be moved back");
        virement(s, 30);
        s.answers(3, "make", 2, 5);
        s.answers(70, "allot", 2, 40);
        s.answers(0, "commit", 2, 40);
        s.answers(0, "pay", 0, 40);
        s.answers(60, "vire", 1, 3, 10);
        s.answers(30, "revoke", 5);
        s.answers(90, "head", 1, 5);
        s.answers(10, "head", 1, 10);
        s.answers(40, "head", 2, 5);
        s.answers(0, "head", 2, 8);
        s.answers(10, "head", 3, 8);
        s.end();
    }

    private static void theGiverMayComeToHaveMore() {
        Scene s = scene(13, "is moved back: to more than 1000000");
        s.answers(1, "make", 0, 0);
        for (int time = 1; time <= 10; time++) {
            s.answers(time * 100000, "allot", 0, 100000);
        }
        s.answers(900000, "vire", 0, 1, 100000);
        s.answers(1000000, "allot", 0, 100000);
        s.answers(100000, "revoke", 1);
        s.answers(1100000, "head", 0, 5);
        s.noRoom("allot", 0, 1);
        s.end();
    }

    private static void whatWasMovedBackMayLeaveAgain() {
        Scene s = scene(13, "what left the giving head by virements becomes less by it: for the share too");
        virement(s, 30);
        s.answers(50, "vire", 1, 2, 20);
        s.illegal("vire", 1, 2, 1);
        s.answers(30, "revoke", 1);
        s.answers(20, "head", 1, 10);
        s.answers(30, "mostFrom", 1, 2);
        s.illegal("vire", 1, 2, 31);
        s.answers(50, "vire", 1, 2, 30);
        s.end();
    }

    private static void whatIsOpenOfACommitmentIsReleased() {
        Scene s = scene(13, "of a commitment, what is open is released");
        s.answers(100, "allot", 0, 100);
        s.answers(0, "commit", 0, 30);
        s.answers(1, "commit", 0, 20);
        s.answers(30, "revoke", 1);
        s.answers(80, "head", 0, 8);
        s.answers(20, "head", 0, 6);
        s.answers(0, "commitment", 0, 1);
        s.answers(20, "commitment", 1, 1);
        s.answers(1, "count", 3);
        s.end();
    }

    private static void theLastUnitOfACommitment() {
        Scene s = scene(13, "Returns the amount that is .. released: the last unit");
        s.answers(100, "allot", 0, 100);
        s.answers(0, "commit", 0, 30);
        s.answers(1, "pay", 0, 29);
        s.answers(1, "revoke", 1);
        s.answers(71, "head", 0, 8);
        s.answers(29, "head", 0, 7);
        s.answers(29, "commitment", 0, 2);
        s.end();
    }

    private static void aRevokedCommitmentKeepsItsNumber() {
        Scene s = scene(13, "of a commitment, what is open is released: it is a commitment still");
        s.answers(100, "allot", 0, 100);
        s.answers(0, "commit", 0, 30);
        s.answers(30, "revoke", 0);
        s.answers(1, "count", 2);
        s.answers(0, "count", 3);
        s.answers(1, "commit", 0, 30);
        s.illegal("pay", 0, 1);
        s.illegal("release", 0);
        s.end();
    }

    private static void aCommitmentOfABarredHead() {
        Scene s = scene(13, "what is committed can be paid and released all the same");
        s.answers(1, "make", 0, 0);
        s.answers(100, "allot", 1, 100);
        s.answers(0, "commit", 1, 30);
        s.answers(2, "freeze", 0, 1);
        s.answers(30, "revoke", 1);
        s.answers(100, "head", 1, 8);
        s.end();
    }

    private static void revokingIsADeed() {
        Scene s = scene(13, "it is a deed of its own");
        virement(s, 30);
        s.answers(4, "count", 9);
        s.answers(30, "revoke", 0);
        s.answers(5, "count", 9);
        s.answers(10, "deed", 0);
        s.answers(8, "deed", 1);
        s.answers(4, "undo");
        s.answers(8, "deed", 0);
        s.answers(70, "head", 1, 5);
        s.end();
    }

    // ---- promise 13: what cannot be revoked

    private static void whatCannotBeRevoked() {
        notRevocable(3, "make", 0, 3);
        notRevocable(71, "allot", 1, 1);
        notRevocable(1, "freeze", 1, 1);
        notRevocable(50, "setShare", 1, 40);
        notRevocable(10, "setCarried", 40);
        notRevocable(5, "pay", 0, 5);
        notRevocable(10, "release", 0);
        notRevocable(54 + 27, "endYear");
        notRevocable(30, "revoke", 1);
        aVirementThatWasRevoked();
        aCommitmentThatWasRevoked();
        aYearHasEndedSinceTheVirement();
        aYearHasEndedSinceTheCommitment();
        aYearThatEndedBefore();
        aYearOfWhichTheEndIsUndone();
        moreThanTheFreeMoneyOfTheTaker();
        committedMoneyOfTheTaker();
        movedOnByTheTaker();
        nothingIsOpenSinceAllIsPaid();
        nothingIsOpenSinceItIsReleased();
    }

    private static void notRevocable(int want, String name, int... with) {
        Scene s = scene(13, "ILLEGAL_STATE .. if the deed is neither a virement nor a commitment");
        s.answers(1, "make", 0, 1);
        s.answers(2, "make", 0, 1);
        s.answers(100, "allot", 1, 100);
        s.answers(70, "vire", 1, 2, 30);
        s.answers(0, "commit", 1, 10);
        s.illegal("revoke", 2);
        s.answers(want, name, with);
        s.illegal("revoke", 0);
        s.end();
    }

    private static void aVirementThatWasRevoked() {
        Scene s = scene(13, "ILLEGAL_STATE .. if it was revoked: a virement, though the taker is rich");
        virement(s, 30);
        s.answers(130, "allot", 2, 100);
        s.answers(50, "vire", 1, 2, 20);
        s.answers(30, "revoke", 2);
        s.illegal("revoke", 3);
        s.answers(20, "revoke", 1);
        s.illegal("revoke", 2);
        s.illegal("revoke", 4);
        s.answers(100, "head", 2, 8);
        s.end();
    }

    private static void aCommitmentThatWasRevoked() {
        Scene s = scene(13, "ILLEGAL_STATE .. if it was revoked: a commitment");
        s.answers(100, "allot", 0, 100);
        s.answers(0, "commit", 0, 30);
        s.answers(1, "commit", 0, 40);
        s.answers(30, "revoke", 1);
        s.illegal("revoke", 2);
        s.answers(40, "revoke", 1);
        s.illegal("revoke", 2);
        s.illegal("revoke", 3);
        s.end();
    }

    private static void aYearHasEndedSinceTheVirement() {
        Scene s = scene(13, "if a year has ended since (be it a virement ..)");
        virement(s, 30);
        s.answers(10, "setCarried", 100);
        s.answers(0, "endYear");
        s.answers(30, "head", 2, 8);
        s.illegal("revoke", 2);
        s.answers(0, "endYear");
        s.illegal("revoke", 3);
        s.end();
    }

    private static void aYearHasEndedSinceTheCommitment() {
        Scene s = scene(13, "if a year has ended since (be it .. a commitment)");
        s.answers(100, "allot", 0, 100);
        s.answers(0, "commit", 0, 30);
        s.answers(63, "endYear");
        s.answers(30, "commitment", 0, 1);
        s.illegal("revoke", 1);
        s.answers(30, "release", 0);
        s.end();
    }

    private static void aYearThatEndedBefore() {
        Scene s = scene(13, "if a year has ended since: not before");
        s.answers(0, "endYear");
        virement(s, 30);
        s.answers(0, "commit", 1, 10);
        s.answers(30, "revoke", 1);
        s.answers(10, "revoke", 1);
        s.end();
    }

    private static void aYearOfWhichTheEndIsUndone() {
        Scene s = scene(13, "if a year has ended since: not if that is undone");
        virement(s, 30);
        s.answers(0, "commit", 1, 10);
        s.answers(54 + 27, "endYear");
        s.illegal("revoke", 1);
        s.illegal("revoke", 2);
        s.answers(5, "undo");
        s.answers(30, "revoke", 1);
        s.answers(10, "revoke", 1);
        s.end();
    }

    private static void moreThanTheFreeMoneyOfTheTaker() {
        Scene s = scene(13, "if the amount is more than the free money of the head to which it was moved");
        virement(s, 30);
        s.answers(0, "commit", 2, 1);
        s.illegal("revoke", 1);
        s.answers(31, "allot", 2, 1);
        s.answers(30, "head", 2, 8);
        s.answers(30, "revoke", 2);
        s.answers(0, "head", 2, 8);
        s.end();
    }

    private static void committedMoneyOfTheTaker() {
        Scene s = scene(13, "the free money of the head to which it was moved: neither committed nor spent");
        virement(s, 30);
        s.answers(0, "commit", 2, 30);
        s.illegal("revoke", 1);
        s.answers(29, "pay", 0, 1);
        s.answers(29, "release", 0);
        s.illegal("revoke", 3);
        s.answers(31, "allot", 2, 1);
        s.answers(30, "revoke", 4);
        s.end();
    }

    private static void movedOnByTheTaker() {
        Scene s = scene(13, "if what it moved can be moved back: not while it has been moved on");
        virement(s, 30);
        s.answers(40, "allot", 2, 10);
        s.answers(35, "vire", 2, 0, 5);
        s.answers(0, "commit", 2, 10);
        s.illegal("revoke", 3);
        s.answers(5, "revoke", 1);
        s.answers(30, "revoke", 4);
        s.answers(0, "head", 2, 8);
        s.end();
    }

    private static void nothingIsOpenSinceAllIsPaid() {
        Scene s = scene(13, "or nothing of the commitment is open: it is paid");
        s.answers(100, "allot", 0, 100);
        s.answers(0, "commit", 0, 30);
        s.answers(0, "pay", 0, 30);
        s.illegal("revoke", 1);
        s.answers(2, "undo");
        s.answers(30, "revoke", 0);
        s.end();
    }

    private static void nothingIsOpenSinceItIsReleased() {
        Scene s = scene(13, "or nothing of the commitment is open: it is released");
        s.answers(100, "allot", 0, 100);
        s.answers(0, "commit", 0, 30);
        s.answers(30, "release", 0);
        s.illegal("revoke", 1);
        s.answers(2, "undo");
        s.answers(30, "revoke", 0);
        s.end();
    }

    // ---- promise 13: revoking and undoing

    private static void revokingAndUndoing() {
        anUndoneRevokingOfAVirement();
        anUndoneRevokingOfACommitment();
        anUndoneRevokingOfOneOfTwo();
        aDeedInThePlaceOfARevokedOne();
        aRevokingIsNotRevoked();
        otherDeedsDoNotRevoke();
    }

    private static void anUndoneRevokingOfAVirement() {
        Scene s = scene(13, "What undo() undoes is as if it had never been called, also for revoke(): a virement");
        virement(s, 30);
        s.asIfNever(30, 4, "revoke", 0);
        s.answers(30, "revoke", 0);
        s.illegal("revoke", 1);
        s.answers(4, "undo");
        s.answers(30, "head", 1, 10);
        s.answers(30, "revoke", 0);
        s.end();
    }

    private static void anUndoneRevokingOfACommitment() {
        Scene s = scene(13, "What undo() undoes is as if it had never been called, also for revoke(): a commitment");
        s.answers(100, "allot", 0, 100);
        s.answers(0, "commit", 0, 30);
        s.answers(20, "pay", 0, 10);
        s.asIfNever(20, 3, "revoke", 1);
        s.answers(15, "pay", 0, 5);
        s.answers(15, "revoke", 2);
        s.illegal("revoke", 3);
        s.end();
    }

    private static void anUndoneRevokingOfOneOfTwo() {
        Scene s = scene(13, "the one that it undoes cannot be revoked again: that one alone");
        virement(s, 30);
        s.answers(110, "allot", 2, 80);
        s.answers(60, "vire", 1, 2, 10);
        s.answers(30, "revoke", 2);
        s.answers(10, "revoke", 1);
        s.answers(7, "undo");
        s.illegal("revoke", 3);
        s.answers(10, "revoke", 1);
        s.illegal("revoke", 2);
        s.illegal("revoke", 4);
        s.end();
    }

    private static void aDeedInThePlaceOfARevokedOne() {
        Scene s = scene(13, "if it was revoked: not one made after both were undone");
        virement(s, 30);
        s.answers(30, "revoke", 0);
        s.answersInTurn(new int[] {4, 3}, "undo");
        s.answers(80, "vire", 1, 2, 20);
        s.answers(20, "revoke", 0);
        s.illegal("revoke", 1);
        s.end();
    }

    private static void aRevokingIsNotRevoked() {
        Scene s = scene(13, "if the deed is neither a virement nor a commitment: of both kinds of revoking");
        virement(s, 30);
        s.answers(130, "allot", 2, 100);
        s.answers(0, "commit", 1, 10);
        s.answers(30, "revoke", 2);
        s.illegal("revoke", 0);
        s.answers(10, "revoke", 1);
        s.illegal("revoke", 0);
        s.illegal("revoke", 1);
        s.end();
    }

    // The virements are the fourth and the fifth deed; heads and commitments of these numbers come after.
    private static void otherDeedsDoNotRevoke() {
        Scene s = scene(13, "if it was revoked, or is no commitment: not by deeds that merely name the same numbers");
        virement(s, 10);
        s.answers(70, "vire", 1, 2, 20);
        for (int number = 0; number <= 5; number++) {
            s.answers(number, "commit", 1, 1);
        }
        s.answers(30, "head", 2, 8);
        s.answers(10, "revoke", 7);
        s.illegal("revoke", 0);
        s.answers(20, "revoke", 7);
        s.illegal("revoke", 0);
        s.illegal("revoke", 1);
        s.answers(6, "count", 3);
        s.end();
    }

    // ---- promise 13: when deeds are forgotten

    private static void revokingAndForgetting() {
        theOldestOf12IsRevoked();
        theOldestOf12IsACommitment();
        whatIsForgottenIsNotRevoked();
        anUndoneRevokingOfTheOldest();
        twoOldestOnes();
        revokedStaysRevokedUntilForgotten();
    }

    /** Deeds that touch no money, so many. */
    private static void setCarriedTimes(Scene s, int times) {
        s.answersEachTime(times, 10, "setCarried", 10);
    }

    private static void theOldestOf12IsRevoked() {
        Scene s = scene(13, "remembered, as the latest 12: a virement that is the oldest");
        virement(s, 30);
        setCarriedTimes(s, 11);
        s.answers(8, "deed", 11);
        s.illegal("revoke", 12);
        s.illegal("revoke", 10);
        s.answers(30, "revoke", 11);
        s.answers(12, "count", 9);
        s.answers(10, "deed", 0);
        s.answers(4, "deed", 11);
        s.illegal("revoke", 11);
        s.illegal("revoke", 12);
        s.answers(100, "head", 1, 8);
        s.answers(0, "head", 1, 10);
        s.end();
    }

    private static void theOldestOf12IsACommitment() {
        Scene s = scene(13, "remembered, as the latest 12: a commitment that is the oldest");
        s.answers(100, "allot", 0, 100);
        s.answers(0, "commit", 0, 30);
        setCarriedTimes(s, 11);
        s.answers(5, "deed", 11);
        s.answers(30, "revoke", 11);
        s.answers(100, "head", 0, 8);
        s.answers(0, "commitment", 0, 1);
        s.illegal("revoke", 11);
        s.end();
    }

    private static void whatIsForgottenIsNotRevoked() {
        Scene s = scene(13, "a single virement or commitment that is remembered: not a forgotten one");
        virement(s, 30);
        s.answers(0, "commit", 1, 10);
        setCarriedTimes(s, 11);
        s.answers(10, "revoke", 11);
        setCarriedTimes(s, 1);
        for (int index = 0; index <= 13; index++) {
            s.illegal("revoke", index);
        }
        s.answers(30, "head", 2, 5);
        s.end();
    }

    private static void anUndoneRevokingOfTheOldest() {
        Scene s = scene(13, "but a deed that is not remembered any more does not come back by it");
        virement(s, 30);
        setCarriedTimes(s, 11);
        s.answers(30, "revoke", 11);
        s.answers(11, "undo");
        s.answers(30, "head", 2, 5);
        s.answers(30, "head", 1, 10);
        s.none("deed", 11);
        s.answers(4, "deed", 10);
        s.illegal("revoke", 11);
        s.illegal("revoke", 10);
        s.answersInTurn(new int[] {10, 9, 8, 7, 6, 5, 4, 3, 2, 1, 0}, "undo");
        s.illegal("undo");
        s.answers(30, "head", 2, 5);
        s.end();
    }

    private static void twoOldestOnes() {
        Scene s = scene(13, "0 for the latest deed that is remembered, 1 for the one before: when all move on");
        virement(s, 10);
        s.answers(70, "vire", 1, 2, 20);
        setCarriedTimes(s, 10);
        s.answers(10, "revoke", 11);
        s.answers(8, "deed", 11);
        s.answers(20, "revoke", 11);
        s.answers(4, "deed", 11);
        s.illegal("revoke", 11);
        s.answers(0, "head", 1, 10);
        s.answers(11, "undo");
        s.answers(10, "undo");
        s.answers(30, "head", 1, 10);
        s.end();
    }

    private static void revokedStaysRevokedUntilForgotten() {
        Scene s = scene(13, "the one that it undoes cannot be revoked again, as long as it is remembered");
        virement(s, 30);
        s.answers(130, "allot", 2, 100);
        s.answers(30, "revoke", 1);
        for (int index = 2; index <= 11; index++) {
            s.illegal("revoke", index);
            setCarriedTimes(s, 1);
        }
        s.illegal("revoke", 12);
        s.answers(100, "head", 2, 8);
        s.end();
    }
}
