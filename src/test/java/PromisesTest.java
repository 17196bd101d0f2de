/** Each promise of the document by hand-made runs: ordinary inputs, edges, and wrong inputs. */
public final class PromisesTest {
    private static final int INVALID = HeadBudgets.INVALID_ARGUMENT;
    private static final int ILLEGAL = HeadBudgets.ILLEGAL_STATE;
    private static final int FULL = HeadBudgets.CAPACITY_EXCEEDED;
    private static final int NONE = HeadBudgets.NONE;

    private static final Due DUE = new Due();
    private static String promise = "";

    private static void due(String call, int got, int want) {
        DUE.is(promise + ": " + call, got, want);
    }

    public static void main(String[] args) {
        theConstants();
        promise1NewObject();
        promise2Make();
        promise2TheConditionsInTheirOrder();
        promise3Allot();
        promise4Freeze();
        promise4FromTheRootToTheGreatestDepth();
        promise5SetShare();
        promise6SetCarried();
        promise7Commit();
        promise7FortyCommitments();
        promise8Pay();
        promise9Release();
        promise10Vire();
        promise10WhoMayGive();
        promise10TheShare();
        promise11EndYear();
        promise11TheLastYear();
        promise11MoneyBeyondAnIntTimesAHundred();
        promise12Undo();
        promise12UndoOfEachKind();
        promise12ForgottenDeeds();
        promise13RevokeVirement();
        promise13NotAgainThoughTheTakerIsRich();
        promise13RevokeCommitment();
        promise13WhatCannotBeRevoked();
        promise13WithUndo();
        promise13TheOldestWhenTheMemoryIsFull();
        promise14Count();
        promise15Head();
        promise16Total();
        promise17Commitment();
        promise18Deed();
        promise19MostFrom();
        promise20BestGiver();
        promise21Richest();
        promise22WouldLapse();
        errorsChangeNothing();
        DUE.close("PromisesTest");
    }

    private static void theConstants() {
        promise = "constants";
        due("INVALID_ARGUMENT", INVALID, -1);
        due("ILLEGAL_STATE", ILLEGAL, -2);
        due("CAPACITY_EXCEEDED", FULL, -3);
        due("NONE", NONE, -9);
    }

    private static void promise1NewObject() {
        promise = "1";
        HeadBudgets x = new HeadBudgets();
        int[] counts = {0, 1, 0, 0, 0, 10, 0, 0, 0, 0};
        for (int what = 0; what < counts.length; what++) {
            due("count " + what, x.count(what), counts[what]);
        }
        int[] root = {NONE, 0, 0, 0, 0, 0, 0, 0, 0, 0, 0, 50};
        for (int what = 0; what < root.length; what++) {
            due("root " + what, x.head(0, what), root[what]);
        }
        due("no head 1", x.head(1, 0), INVALID);
        due("no commitment 0", x.commitment(0, 0), INVALID);
        HeadBudgets other = new HeadBudgets();
        other.make(0, 1);
        due("objects are apart", x.count(1), 1);
    }

    private static void promise2Make() {
        promise = "2";
        HeadBudgets x = new HeadBudgets();
        due("first", x.make(0, 0), 1);
        due("greatest rank", x.make(1, 9), 2);
        due("rank of 1", x.head(1, 2), 0);
        due("rank of 2", x.head(2, 2), 9);
        due("above 2", x.head(2, 0), 1);
        due("depth of 2", x.head(2, 1), 2);
        due("share of 2", x.head(2, 11), 50);
        due("money of 2", x.head(2, 5), 0);
        due("rank -1", x.make(0, -1), INVALID);
        due("rank 10", x.make(0, 10), INVALID);
        due("above -1", x.make(-1, 0), INVALID);
        due("above none yet", x.make(3, 0), INVALID);
        due("above 20", x.make(20, 0), INVALID);
        due("is a deed", x.deed(0), 0);
        due("two deeds", x.count(9), 2);
        x.freeze(1, 1);
        due("below a frozen one", x.make(2, 3), 3);
        due("it is barred", x.head(3, 4), 1);
        due("it is not frozen", x.head(3, 3), 0);
    }

    private static void promise2TheConditionsInTheirOrder() {
        promise = "2";
        HeadBudgets x = new HeadBudgets();
        for (int head = 1; head <= 4; head++) {
            due("down to depth " + head, x.make(head - 1, 1), head);
        }
        due("below depth 4", x.make(4, 1), ILLEGAL);
        due("below depth 4, rank 10", x.make(4, 10), INVALID);
        for (int head = 5; head < 20; head++) {
            due("head " + head, x.make(0, 1), head);
        }
        due("the 21st", x.make(0, 1), FULL);
        due("the 21st below depth 4", x.make(4, 1), ILLEGAL);
        due("the 21st, no head above", x.make(20, 1), INVALID);
        due("there are 20", x.count(1), 20);
        due("undone", x.undo(), 11);
        due("room again", x.make(3, 7), 19);
        due("its depth", x.head(19, 1), 4);
        due("its rank", x.head(19, 2), 7);
    }

    private static void promise3Allot() {
        promise = "3";
        HeadBudgets x = new HeadBudgets();
        due("least", x.allot(0, 1), 1);
        due("most", x.allot(0, 100000), 100001);
        due("0", x.allot(0, 0), INVALID);
        due("-1", x.allot(0, -1), INVALID);
        due("100001", x.allot(0, 100001), INVALID);
        due("head -1", x.allot(-1, 5), INVALID);
        due("head 1", x.allot(1, 5), INVALID);
        due("greatest int", x.allot(0, Integer.MAX_VALUE), INVALID);
        due("allotment", x.head(0, 5), 100001);
        due("allotted in this year", x.head(0, 9), 100001);
        due("is a deed", x.deed(0), 1);
        for (int time = 0; time < 8; time++) {
            x.allot(0, 100000);
        }
        due("to 1000000", x.allot(0, 99999), 1000000);
        due("beyond", x.allot(0, 1), FULL);
        due("beyond and out of range", x.allot(0, 0), INVALID);
        x.make(0, 0);
        x.allot(1, 1000);
        due("a virement to beyond", x.vire(1, 0, 500), 500);
        due("is allowed", x.head(0, 5), 1000500);
        due("beyond by a virement", x.allot(0, 1), FULL);
        x.freeze(0, 1);
        due("a frozen head is allotted to", x.allot(1, 10), 510);
    }

    private static void promise4Freeze() {
        promise = "4";
        HeadBudgets x = new HeadBudgets();
        x.make(0, 1);
        x.make(1, 1);
        x.make(0, 1);
        due("end what is not", x.freeze(1, 0), ILLEGAL);
        due("a group", x.freeze(1, 1), 2);
        due("again", x.freeze(1, 1), ILLEGAL);
        due("one in it", x.freeze(2, 1), 2);
        due("end of the group", x.freeze(1, 0), 1);
        due("the one stays frozen", x.head(2, 3), 1);
        due("the root", x.freeze(0, 1), 4);
        due("barred, not frozen", x.head(3, 3), 0);
        due("barred", x.head(3, 4), 1);
        due("is 2", x.freeze(3, 2), INVALID);
        due("is -1", x.freeze(3, -1), INVALID);
        due("head 4", x.freeze(4, 1), INVALID);
        due("head -1", x.freeze(-1, 1), INVALID);
        due("is a deed", x.deed(0), 2);
    }

    private static void promise4FromTheRootToTheGreatestDepth() {
        promise = "4";
        HeadBudgets x = new HeadBudgets();
        for (int above = 0; above < 4; above++) {
            x.make(above, 9 - above);
        }
        x.allot(4, 10);
        due("the root", x.freeze(0, 1), 5);
        due("barred at depth 4", x.head(4, 4), 1);
        due("no commitment there", x.commit(4, 1), ILLEGAL);
        due("not any more", x.freeze(0, 0), 0);
        due("the total reaches it", x.total(0, 0), 10);
        due("and the heads", x.total(0, 4), 5);
        due("it is below the root", x.richest(0, 0), 4);
        due("and may give to it", x.mostFrom(4, 0), 5);
    }

    private static void promise5SetShare() {
        promise = "5";
        HeadBudgets x = new HeadBudgets();
        x.make(0, 1);
        due("first", x.setShare(1, 0), 50);
        due("then", x.setShare(1, 100), 0);
        due("the same", x.setShare(1, 100), 100);
        due("101", x.setShare(1, 101), INVALID);
        due("-1", x.setShare(1, -1), INVALID);
        due("head 2", x.setShare(2, 10), INVALID);
        due("head -1", x.setShare(-1, 10), INVALID);
        due("share of 1", x.head(1, 11), 100);
        due("share of the root", x.head(0, 11), 50);
        due("is a deed", x.deed(0), 3);
        due("each is one", x.count(9), 4);
    }

    private static void promise6SetCarried() {
        promise = "6";
        HeadBudgets x = new HeadBudgets();
        due("first", x.setCarried(0), 10);
        due("then", x.setCarried(100), 0);
        due("the same", x.setCarried(100), 100);
        due("101", x.setCarried(101), INVALID);
        due("-1", x.setCarried(-1), INVALID);
        due("part", x.count(5), 100);
        due("is a deed", x.deed(0), 4);
        due("each is one", x.count(9), 3);
    }

    private static void promise7Commit() {
        promise = "7";
        HeadBudgets x = new HeadBudgets();
        x.make(0, 1);
        x.allot(1, 100);
        due("all but one", x.commit(1, 99), 0);
        due("more than free", x.commit(1, 2), ILLEGAL);
        due("the last one", x.commit(1, 1), 1);
        due("free", x.head(1, 8), 0);
        due("committed", x.head(1, 6), 100);
        due("allotment", x.head(1, 5), 100);
        due("nothing free", x.commit(0, 1), ILLEGAL);
        due("0", x.commit(1, 0), INVALID);
        due("100001", x.commit(1, 100001), INVALID);
        due("100000", x.commit(1, 100000), ILLEGAL);
        due("head 2", x.commit(2, 1), INVALID);
        due("head -1", x.commit(-1, 1), INVALID);
        due("is a deed", x.deed(0), 5);
        x.allot(1, 10);
        x.freeze(0, 1);
        due("barred from above", x.commit(1, 1), ILLEGAL);
        x.freeze(0, 0);
        x.freeze(1, 1);
        due("frozen", x.commit(1, 1), ILLEGAL);
        x.freeze(1, 0);
        due("not any more", x.commit(1, 1), 2);
    }

    private static void promise7FortyCommitments() {
        promise = "7";
        HeadBudgets x = new HeadBudgets();
        x.allot(0, 100);
        for (int number = 0; number < 40; number++) {
            due("commitment " + number, x.commit(0, 2), number);
        }
        due("the 41st", x.commit(0, 1), FULL);
        due("the 41st, too much", x.commit(0, 21), ILLEGAL);
        due("the 41st, head 1", x.commit(1, 1), INVALID);
        due("released", x.release(3), 2);
        due("numbers are for good", x.commit(0, 1), FULL);
        due("undo of the release", x.undo(), 11);
        due("undo of the 40th", x.undo(), 10);
        due("it is gone", x.commitment(39, 1), INVALID);
        due("made anew", x.commit(0, 7), 39);
        due("its open amount", x.commitment(39, 1), 7);
    }

    private static void promise8Pay() {
        promise = "8";
        HeadBudgets x = new HeadBudgets();
        x.allot(0, 100);
        x.commit(0, 60);
        due("a part", x.pay(0, 25), 35);
        due("too much", x.pay(0, 36), ILLEGAL);
        due("0", x.pay(0, 0), INVALID);
        due("-5", x.pay(0, -5), INVALID);
        due("100001", x.pay(0, 100001), INVALID);
        due("100000", x.pay(0, 100000), ILLEGAL);
        due("commitment 1", x.pay(1, 1), INVALID);
        due("commitment -1", x.pay(-1, 1), INVALID);
        due("committed", x.head(0, 6), 35);
        due("spent", x.head(0, 7), 25);
        due("free", x.head(0, 8), 40);
        due("allotment", x.head(0, 5), 100);
        x.freeze(0, 1);
        due("barred, all the rest", x.pay(0, 35), 0);
        due("nothing open", x.pay(0, 1), ILLEGAL);
        due("is a deed", x.deed(0), 6);
        due("spent so far", x.count(8), 60);
    }

    private static void promise9Release() {
        promise = "9";
        HeadBudgets x = new HeadBudgets();
        x.allot(0, 100);
        x.commit(0, 60);
        x.commit(0, 40);
        x.pay(0, 15);
        x.freeze(0, 1);
        due("barred, the rest", x.release(0), 45);
        due("free", x.head(0, 8), 45);
        due("committed", x.head(0, 6), 40);
        due("nothing open", x.release(0), ILLEGAL);
        due("paid stays", x.commitment(0, 2), 15);
        due("commitment 2", x.release(2), INVALID);
        due("commitment -1", x.release(-1), INVALID);
        due("is a deed", x.deed(0), 7);
        due("pay of a released one", x.pay(0, 1), ILLEGAL);
        x.pay(1, 40);
        due("all paid", x.release(1), ILLEGAL);
    }

    private static void promise10Vire() {
        promise = "10";
        HeadBudgets x = new HeadBudgets();
        x.make(0, 1);
        x.allot(0, 100);
        due("a part", x.vire(0, 1, 30), 70);
        due("the giver", x.head(0, 5), 70);
        due("left it", x.head(0, 10), 30);
        due("allotted to it", x.head(0, 9), 100);
        due("the taker", x.head(1, 5), 30);
        due("allotted to the taker", x.head(1, 9), 0);
        due("the taker's share is of nothing", x.vire(1, 0, 1), ILLEGAL);
        due("is a deed", x.deed(0), 8);
        due("the same head", x.vire(0, 0, 1), INVALID);
        due("from 2", x.vire(2, 0, 1), INVALID);
        due("from -1", x.vire(-1, 0, 1), INVALID);
        due("to 2", x.vire(0, 2, 1), INVALID);
        due("to -1", x.vire(0, -1, 1), INVALID);
        due("0", x.vire(0, 1, 0), INVALID);
        due("100001", x.vire(0, 1, 100001), INVALID);
        due("100000", x.vire(0, 1, 100000), ILLEGAL);
        x.freeze(1, 1);
        due("to a frozen one", x.vire(0, 1, 1), ILLEGAL);
        x.freeze(1, 0);
        x.setShare(0, 100);
        x.commit(0, 60);
        due("more than free", x.vire(0, 1, 11), ILLEGAL);
        due("all that is free", x.vire(0, 1, 10), 0);
    }

    private static void promise10WhoMayGive() {
        promise = "10";
        HeadBudgets x = new HeadBudgets();
        x.make(0, 5);
        x.make(0, 4);
        x.make(1, 9);
        x.make(2, 8);
        x.make(4, 9);
        for (int head = 0; head <= 5; head++) {
            x.allot(head, 100);
        }
        due("to one below, by rank above", x.vire(1, 3, 1), 99);
        due("to one above, of a lesser rank", x.vire(3, 1, 1), 100);
        due("to the root from depth 3", x.vire(5, 0, 1), 99);
        due("the same above, to a lesser rank", x.vire(1, 2, 1), 99);
        due("no kin, to a lesser rank", x.vire(3, 4, 1), ILLEGAL);
        due("no kin, to a greater rank", x.vire(4, 3, 1), 99);
        due("no kin, to the same rank", x.vire(3, 5, 1), 100);
        due("an uncle of a lesser rank", x.vire(5, 1, 1), ILLEGAL);
        due("a nephew of a greater rank", x.vire(1, 5, 1), 98);
        x.freeze(2, 1);
        due("barred taker", x.vire(0, 5, 1), ILLEGAL);
        due("barred giver", x.vire(5, 0, 1), ILLEGAL);
        due("within the barred group", x.vire(4, 5, 1), ILLEGAL);
        due("beside it", x.vire(1, 3, 1), 97);
    }

    private static void promise10TheShare() {
        promise = "10";
        HeadBudgets x = new HeadBudgets();
        x.make(0, 0);
        x.allot(0, 99);
        due("over half of 99", x.vire(0, 1, 50), ILLEGAL);
        due("the first part", x.vire(0, 1, 20), 79);
        due("with this one over", x.vire(0, 1, 30), ILLEGAL);
        due("with this one just", x.vire(0, 1, 29), 50);
        x.setShare(0, 10);
        due("over since the share is less", x.mostFrom(0, 1), 0);
        due("one more", x.vire(0, 1, 1), ILLEGAL);
        x.setShare(0, 100);
        due("all", x.vire(0, 1, 50), 0);
        x.setShare(1, 100);
        due("what came does not count", x.vire(1, 0, 1), ILLEGAL);
        x.allot(1, 3);
        due("what was allotted does", x.vire(1, 0, 3), 99);
        due("and no more", x.vire(1, 0, 1), ILLEGAL);
        x.setCarried(50);
        x.endYear();
        due("left is 0 again", x.head(1, 10), 0);
        due("carried forward counts", x.vire(1, 0, 49), 0);
    }

    private static void promise11EndYear() {
        promise = "11";
        HeadBudgets x = new HeadBudgets();
        x.make(0, 1);
        x.allot(0, 105);
        x.allot(1, 59);
        x.commit(1, 30);
        x.pay(0, 10);
        x.vire(0, 1, 6);
        due("what lapses", x.endYear(), 90 + 32);
        due("the year", x.count(0), 1);
        due("root's allotment", x.head(0, 5), 9);
        due("root's allotted", x.head(0, 9), 9);
        due("root's left", x.head(0, 10), 0);
        due("1's allotment", x.head(1, 5), 23);
        due("1's committed", x.head(1, 6), 20);
        due("1's spent", x.head(1, 7), 0);
        due("1's free", x.head(1, 8), 3);
        due("1's allotted", x.head(1, 9), 3);
        due("lapsed so far", x.count(7), 122);
        due("spent so far", x.count(8), 10);
        due("is a deed", x.deed(0), 9);
        due("open is open", x.pay(0, 5), 15);
        x.setCarried(100);
        due("all is carried", x.endYear(), 0);
        due("1's allotment after it", x.head(1, 5), 18);
        x.setCarried(0);
        due("nothing is carried", x.endYear(), 12);
        due("lapsed in all", x.count(7), 134);
        due("root has nothing", x.head(0, 5), 0);
        due("frozen heads too", x.freeze(0, 1), 2);
        due("released", x.release(0), 15);
        due("lapses all the same", x.endYear(), 15);
    }

    private static void promise11TheLastYear() {
        promise = "11";
        HeadBudgets x = new HeadBudgets();
        for (int year = 0; year < 99; year++) {
            due("end of " + year, x.endYear(), 0);
        }
        due("the year", x.count(0), 99);
        due("end of 99", x.endYear(), ILLEGAL);
        due("undo", x.undo(), 11);
        due("end of 98", x.endYear(), 0);
    }

    private static void promise11MoneyBeyondAnIntTimesAHundred() {
        promise = "11";
        HeadBudgets x = new HeadBudgets();
        x.make(0, 0);
        x.setShare(1, 100);
        x.setCarried(100);
        for (int time = 0; time < 230; time++) {
            x.allot(1, 100000);
            x.vire(1, 0, 100000);
        }
        due("free", x.head(0, 8), 23000000);
        due("allotted", x.head(1, 9), 23000000);
        due("no share of it is left", x.mostFrom(1, 0), 0);
        due("all is carried", x.wouldLapse(0), 0);
        due("all is carried, by the end", x.endYear(), 0);
        due("free still", x.head(0, 8), 23000000);
        due("half of it may leave", x.mostFrom(0, 1), 100000);
        x.setCarried(99);
        due("a hundredth lapses", x.endYear(), 230000);
    }

    private static void promise12Undo() {
        promise = "12";
        HeadBudgets x = new HeadBudgets();
        due("nothing", x.undo(), ILLEGAL);
        x.allot(0, 10);
        x.allot(0, 20);
        due("the second", x.undo(), 1);
        due("allotment", x.head(0, 5), 10);
        due("is no deed", x.count(9), 1);
        due("the first", x.undo(), 0);
        due("allotment then", x.head(0, 5), 0);
        due("nothing more", x.undo(), ILLEGAL);
        due("nothing remembered", x.deed(0), NONE);
    }

    private static void promise12UndoOfEachKind() {
        promise = "12";
        for (int kind = 0; kind <= 10; kind++) {
            HeadBudgets x = new HeadBudgets();
            x.make(0, 3);
            x.allot(0, 100);
            x.commit(0, 40);
            x.pay(0, 10);
            x.vire(0, 1, 20);
            String before = Looks.at(x);
            int answer = callOfKind(x, kind);
            DUE.holds("12: kind " + kind + " answered " + answer, answer >= 0);
            due("kind", x.deed(0), kind);
            DUE.holds("12: kind " + kind + " changes something", !before.equals(Looks.at(x)));
            due("undo of kind " + kind, x.undo(), 5);
            DUE.holds("12: kind " + kind + " is undone", before.equals(Looks.at(x)));
        }
    }

    private static int callOfKind(HeadBudgets x, int kind) {
        switch (kind) {
            case 0: return x.make(0, 4);
            case 1: return x.allot(1, 7);
            case 2: return x.freeze(0, 1);
            case 3: return x.setShare(0, 77);
            case 4: return x.setCarried(33);
            case 5: return x.commit(1, 5);
            case 6: return x.pay(0, 30);
            case 7: return x.release(0);
            case 8: return x.vire(0, 1, 8);
            case 9: return x.endYear();
            default: return x.revoke(0);
        }
    }

    private static void promise12ForgottenDeeds() {
        promise = "12";
        HeadBudgets x = new HeadBudgets();
        for (int time = 1; time <= 15; time++) {
            x.allot(0, time);
            due("remembered", x.count(9), Math.min(time, 12));
        }
        for (int time = 15; time > 3; time--) {
            due("undo of " + time, x.undo(), time - 4);
        }
        due("what is forgotten stays done", x.head(0, 5), 6);
        due("and does not come back", x.undo(), ILLEGAL);
        x.allot(0, 1);
        due("remembering goes on", x.count(9), 1);
        due("and undoing", x.undo(), 0);
        due("to here", x.head(0, 5), 6);
        due("is no index", x.revoke(0), ILLEGAL);
    }

    private static void promise13RevokeVirement() {
        promise = "13";
        HeadBudgets x = new HeadBudgets();
        x.make(0, 3);
        x.make(0, 3);
        x.allot(1, 100);
        x.vire(1, 2, 30);
        x.vire(1, 2, 10);
        x.setShare(1, 0);
        x.freeze(0, 1);
        due("index -1", x.revoke(-1), INVALID);
        due("smallest int", x.revoke(Integer.MIN_VALUE), INVALID);
        due("the first one, whatever bars it", x.revoke(3), 30);
        due("giver", x.head(1, 5), 90);
        due("left giver", x.head(1, 10), 10);
        due("allotted to the giver", x.head(1, 9), 100);
        due("taker", x.head(2, 5), 10);
        due("left taker", x.head(2, 10), 0);
        due("is a deed", x.deed(0), 10);
        due("not again", x.revoke(4), ILLEGAL);
        due("a revoking is not revoked", x.revoke(0), ILLEGAL);
        x.freeze(0, 0);
        due("half is committed", x.commit(2, 1), 0);
        due("more than free", x.revoke(5), ILLEGAL);
        x.release(0);
        due("free again", x.revoke(6), 10);
        due("left nothing", x.head(1, 10), 0);
    }

    private static void promise13NotAgainThoughTheTakerIsRich() {
        promise = "13";
        HeadBudgets x = new HeadBudgets();
        x.make(0, 3);
        x.allot(0, 100);
        x.allot(1, 1000);
        x.vire(0, 1, 10);
        x.vire(0, 1, 20);
        due("the first", x.revoke(1), 10);
        due("the first again", x.revoke(2), ILLEGAL);
        due("the second", x.revoke(1), 20);
        due("the second again", x.revoke(2), ILLEGAL);
        due("the first once more", x.revoke(3), ILLEGAL);
        for (int number = 0; number < 5; number++) {
            due("a commitment", x.commit(1, 1), number);
        }
        due("the first virement", x.revoke(8), ILLEGAL);
        due("another one", x.vire(0, 1, 30), 70);
        due("revoked", x.revoke(0), 30);
        due("and not again", x.revoke(1), ILLEGAL);
        due("undo", x.undo(), 11);
        due("revoked anew", x.revoke(0), 30);
        due("taker", x.head(1, 5), 1000);
        due("giver", x.head(0, 5), 100);
    }

    private static void promise13RevokeCommitment() {
        promise = "13";
        HeadBudgets x = new HeadBudgets();
        x.allot(0, 100);
        x.commit(0, 30);
        x.commit(0, 20);
        x.pay(0, 5);
        x.freeze(0, 1);
        due("what is open of the first", x.revoke(3), 25);
        due("open", x.commitment(0, 1), 0);
        due("paid", x.commitment(0, 2), 5);
        due("free", x.head(0, 8), 75);
        due("committed", x.head(0, 6), 20);
        due("they are two", x.count(2), 2);
        due("not again", x.revoke(4), ILLEGAL);
        due("a payment is not revoked", x.revoke(2), ILLEGAL);
        due("the second released", x.release(1), 20);
        due("nothing open of it", x.revoke(4), ILLEGAL);
        due("a release is not revoked", x.revoke(0), ILLEGAL);
    }

    private static void promise13WhatCannotBeRevoked() {
        promise = "13";
        HeadBudgets x = new HeadBudgets();
        due("nothing", x.revoke(0), ILLEGAL);
        x.make(0, 0);
        x.allot(0, 100);
        x.freeze(0, 1);
        x.freeze(0, 0);
        x.setShare(0, 60);
        x.setCarried(60);
        for (int index = 0; index < 8; index++) {
            due("index " + index, x.revoke(index), ILLEGAL);
        }
        x.vire(0, 1, 10);
        x.commit(0, 10);
        due("not so many", x.revoke(8), ILLEGAL);
        due("greatest int", x.revoke(Integer.MAX_VALUE), ILLEGAL);
        x.endYear();
        due("the year", x.revoke(0), ILLEGAL);
        due("the commitment of the last year", x.revoke(1), ILLEGAL);
        due("the virement of the last year", x.revoke(2), ILLEGAL);
        due("the year is undone", x.undo(), 8);
        due("the virement", x.revoke(1), 10);
        due("the commitment", x.revoke(1), 10);
    }

    private static void promise13WithUndo() {
        promise = "13";
        HeadBudgets x = new HeadBudgets();
        x.make(0, 0);
        x.allot(0, 100);
        x.vire(0, 1, 10);
        x.commit(1, 4);
        due("the commitment", x.revoke(0), 4);
        due("the virement", x.revoke(2), 10);
        due("undo of that", x.undo(), 5);
        due("it stands again", x.head(1, 5), 10);
        due("can be revoked again", x.revoke(2), 10);
        due("but once", x.revoke(3), ILLEGAL);
        due("undo", x.undo(), 5);
        due("undo of the other", x.undo(), 4);
        due("open again", x.commitment(0, 1), 4);
        due("too much is committed", x.revoke(1), ILLEGAL);
        due("the commitment again", x.revoke(0), 4);
        due("undo", x.undo(), 4);
        due("undo of the commitment", x.undo(), 3);
        due("one in its place", x.setShare(0, 50), 50);
        due("is not revoked", x.revoke(0), ILLEGAL);
        due("the virement is", x.revoke(1), 10);
    }

    private static void promise13TheOldestWhenTheMemoryIsFull() {
        promise = "13";
        HeadBudgets x = new HeadBudgets();
        x.make(0, 0);
        x.allot(0, 1000);
        x.vire(0, 1, 10);
        x.commit(0, 20);
        for (int time = 0; time < 10; time++) {
            x.setCarried(time);
        }
        due("twelve", x.count(9), 12);
        due("beyond them", x.revoke(12), ILLEGAL);
        due("the oldest", x.revoke(11), 10);
        due("moved back", x.head(0, 5), 1000);
        due("left nothing", x.head(0, 10), 0);
        due("now the oldest", x.revoke(11), 20);
        due("committed", x.head(0, 6), 0);
        due("undo", x.undo(), 11);
        due("committed again", x.head(0, 6), 20);
        due("but not remembered any more", x.deed(11), NONE);
        due("nor to be revoked", x.revoke(11), ILLEGAL);
        due("the oldest is no commitment", x.deed(10), 4);
    }

    private static void promise14Count() {
        promise = "14";
        HeadBudgets x = new HeadBudgets();
        x.make(0, 1);
        x.make(0, 1);
        x.allot(0, 50);
        x.allot(1, 60);
        x.commit(0, 10);
        x.commit(1, 20);
        x.pay(1, 20);
        x.freeze(2, 1);
        x.setCarried(25);
        int[] counts = {0, 3, 2, 1, 1, 25, 110, 0, 20, 9};
        for (int what = 0; what < counts.length; what++) {
            due("count " + what, x.count(what), counts[what]);
        }
        x.endYear();
        int[] then = {1, 3, 2, 1, 1, 25, 30, 60, 20, 10};
        for (int what = 0; what < then.length; what++) {
            due("count " + what + " then", x.count(what), then[what]);
        }
        due("count -1", x.count(-1), INVALID);
        due("count 10", x.count(10), INVALID);
        due("count of the greatest int", x.count(Integer.MAX_VALUE), INVALID);
    }

    private static void promise15Head() {
        promise = "15";
        HeadBudgets x = new HeadBudgets();
        x.make(0, 4);
        x.make(1, 7);
        x.freeze(1, 1);
        x.freeze(1, 0);
        x.allot(2, 100);
        x.commit(2, 30);
        x.pay(0, 12);
        x.vire(2, 1, 5);
        x.setShare(2, 70);
        x.freeze(2, 1);
        int[] properties = {1, 2, 7, 1, 1, 95, 18, 12, 65, 100, 5, 70};
        for (int what = 0; what < properties.length; what++) {
            due("head 2, " + what, x.head(2, what), properties[what]);
        }
        due("above the root", x.head(0, 0), NONE);
        due("head 3", x.head(3, 0), INVALID);
        due("head -1", x.head(-1, 0), INVALID);
        due("head of the greatest int", x.head(Integer.MAX_VALUE, 0), INVALID);
        due("what -1", x.head(0, -1), INVALID);
        due("what 12", x.head(0, 12), INVALID);
    }

    private static void promise16Total() {
        promise = "16";
        HeadBudgets x = new HeadBudgets();
        x.make(0, 1);
        x.make(1, 1);
        x.make(2, 1);
        x.make(0, 1);
        for (int head = 0; head <= 4; head++) {
            x.allot(head, 100 + head);
        }
        x.commit(1, 10);
        x.commit(3, 20);
        x.pay(1, 5);
        int[][] totals = {{510, 25, 5, 480, 5}, {306, 25, 5, 276, 3}, {205, 15, 5, 185, 2},
            {103, 15, 5, 83, 1}, {104, 0, 0, 104, 1}};
        for (int head = 0; head < totals.length; head++) {
            for (int what = 0; what < 5; what++) {
                due("total " + head + ", " + what, x.total(head, what), totals[head][what]);
            }
        }
        due("head 5", x.total(5, 0), INVALID);
        due("head -1", x.total(-1, 0), INVALID);
        due("what 5", x.total(0, 5), INVALID);
        due("what -1", x.total(0, -1), INVALID);
    }

    private static void promise17Commitment() {
        promise = "17";
        HeadBudgets x = new HeadBudgets();
        x.make(0, 1);
        x.endYear();
        x.endYear();
        x.allot(1, 100);
        x.commit(1, 50);
        x.commit(1, 9);
        x.pay(0, 20);
        x.endYear();
        x.pay(0, 3);
        int[] properties = {1, 27, 23, 2};
        for (int what = 0; what < 4; what++) {
            due("commitment 0, " + what, x.commitment(0, what), properties[what]);
        }
        due("the other is open", x.commitment(1, 1), 9);
        due("nothing paid of it", x.commitment(1, 2), 0);
        due("commitment 2", x.commitment(2, 0), INVALID);
        due("commitment -1", x.commitment(-1, 0), INVALID);
        due("what 4", x.commitment(0, 4), INVALID);
        due("what -1", x.commitment(0, -1), INVALID);
    }

    private static void promise18Deed() {
        promise = "18";
        HeadBudgets x = new HeadBudgets();
        due("nothing", x.deed(0), NONE);
        due("-1", x.deed(-1), INVALID);
        x.make(0, 1);
        x.allot(0, 100);
        x.freeze(0, 1);
        x.freeze(0, 0);
        x.setShare(0, 40);
        x.setCarried(40);
        x.commit(0, 10);
        x.pay(0, 1);
        x.release(0);
        x.vire(0, 1, 10);
        x.revoke(0);
        x.endYear();
        int[] kinds = {9, 10, 8, 7, 6, 5, 4, 3, 2, 2, 1, 0};
        for (int index = 0; index < 12; index++) {
            due("index " + index, x.deed(index), kinds[index]);
        }
        due("index 12", x.deed(12), NONE);
        due("index of the greatest int", x.deed(Integer.MAX_VALUE), NONE);
        x.allot(0, 1);
        due("latest", x.deed(0), 1);
        due("oldest", x.deed(11), 1);
        due("still 12", x.deed(12), NONE);
    }

    private static void promise19MostFrom() {
        promise = "19";
        HeadBudgets x = new HeadBudgets();
        x.make(0, 5);
        x.make(1, 4);
        x.make(0, 3);
        x.make(3, 4);
        x.allot(2, 31);
        due("half", x.mostFrom(2, 1), 15);
        due("to a lesser rank, no kin", x.mostFrom(2, 3), 0);
        due("to the same rank, no kin", x.mostFrom(2, 4), 15);
        x.commit(2, 20);
        due("no more than free", x.mostFrom(2, 1), 11);
        x.vire(2, 1, 6);
        due("less what is free then", x.mostFrom(2, 1), 5);
        x.release(0);
        due("less what left", x.mostFrom(2, 1), 9);
        x.setShare(2, 10);
        due("never below 0", x.mostFrom(2, 1), 0);
        x.setShare(2, 100);
        x.freeze(1, 1);
        due("barred", x.mostFrom(2, 4), 0);
        due("to a barred one", x.mostFrom(3, 1), 0);
        due("the same", x.mostFrom(2, 2), INVALID);
        due("from 5", x.mostFrom(5, 0), INVALID);
        due("from -1", x.mostFrom(-1, 0), INVALID);
        due("to 5", x.mostFrom(0, 5), INVALID);
        due("to -1", x.mostFrom(0, -1), INVALID);
        x.setShare(0, 100);
        x.allot(0, 100000);
        x.allot(0, 1);
        due("at most 100000", x.mostFrom(0, 3), 100000);
        due("changes nothing", x.head(0, 10), 0);
    }

    private static void promise20BestGiver() {
        promise = "20";
        HeadBudgets x = new HeadBudgets();
        due("alone", x.bestGiver(0), NONE);
        x.make(0, 2);
        x.make(0, 6);
        x.make(0, 6);
        x.make(1, 2);
        due("nothing", x.bestGiver(4), NONE);
        x.allot(1, 20);
        x.allot(2, 20);
        due("not itself", x.bestGiver(2), 1);
        due("of the same, the greater rank", x.bestGiver(0), 2);
        x.allot(3, 20);
        due("of the same rank, the smaller number", x.bestGiver(0), 2);
        due("those by rank are not allowed", x.bestGiver(4), 1);
        x.allot(1, 2);
        due("most before rank", x.bestGiver(0), 1);
        for (int head = 1; head <= 3; head += 2) {
            x.setShare(head, 100);
            x.allot(head, 100000);
        }
        x.allot(1, 100000);
        due("as much as one virement moves", x.bestGiver(0), 3);
        x.freeze(3, 1);
        due("no frozen one", x.bestGiver(0), 1);
        due("to a frozen one", x.bestGiver(3), NONE);
        due("head 5", x.bestGiver(5), INVALID);
        due("head -1", x.bestGiver(-1), INVALID);
    }

    private static void promise21Richest() {
        promise = "21";
        HeadBudgets x = new HeadBudgets();
        due("alone", x.richest(0, 0), NONE);
        x.make(0, 2);
        x.make(1, 5);
        x.make(1, 6);
        x.make(0, 5);
        x.make(3, 5);
        x.allot(0, 1000);
        x.allot(1, 10);
        x.allot(2, 40);
        x.allot(4, 40);
        x.allot(5, 50);
        x.commit(5, 10);
        int[] belowRoot = {2, 4, 5, 1, 3};
        for (int index = 0; index < 5; index++) {
            due("0 at " + index, x.richest(0, index), belowRoot[index]);
        }
        due("0 at 5", x.richest(0, 5), NONE);
        due("1 at 0", x.richest(1, 0), 2);
        due("1 at 1", x.richest(1, 1), 5);
        due("1 at 2", x.richest(1, 2), 3);
        due("1 at 3", x.richest(1, 3), NONE);
        due("none below", x.richest(5, 0), NONE);
        x.allot(3, 40);
        due("the greater rank", x.richest(1, 0), 3);
        x.freeze(3, 1);
        due("frozen all the same", x.richest(1, 0), 3);
        due("index -1", x.richest(0, -1), INVALID);
        due("head 6", x.richest(6, 0), INVALID);
        due("head -1", x.richest(-1, 0), INVALID);
        due("greatest int", x.richest(0, Integer.MAX_VALUE), NONE);
    }

    private static void promise22WouldLapse() {
        promise = "22";
        HeadBudgets x = new HeadBudgets();
        x.make(0, 2);
        x.make(1, 5);
        x.make(0, 5);
        for (int head = 0; head <= 3; head++) {
            x.allot(head, 19);
        }
        due("of each head rounded apart", x.wouldLapse(0), 72);
        due("of a part", x.wouldLapse(1), 36);
        due("of one", x.wouldLapse(3), 18);
        x.commit(2, 10);
        x.pay(0, 4);
        due("of free money alone", x.wouldLapse(2), 9);
        x.freeze(0, 1);
        due("frozen all the same", x.wouldLapse(0), 63);
        x.setCarried(100);
        due("all is carried", x.wouldLapse(0), 0);
        x.setCarried(0);
        due("nothing is carried", x.wouldLapse(0), 66);
        due("changes nothing", x.count(7), 0);
        due("head 4", x.wouldLapse(4), INVALID);
        due("head -1", x.wouldLapse(-1), INVALID);
        due("as it lapses", x.endYear(), 66);
    }

    private static void errorsChangeNothing() {
        promise = "errors";
        HeadBudgets x = new HeadBudgets();
        x.make(0, 1);
        x.allot(0, 100);
        x.commit(0, 10);
        x.release(0);
        String before = Looks.at(x);
        int[] answers = {x.make(9, 1), x.make(0, 10), x.allot(5, 1), x.allot(0, 0), x.freeze(0, 0),
            x.freeze(7, 1), x.setShare(0, 101), x.setCarried(-1), x.commit(0, 101), x.commit(0, 0),
            x.pay(0, 1), x.pay(1, 1), x.release(0), x.release(4), x.vire(0, 1, 51), x.vire(0, 0, 1),
            x.revoke(-1), x.revoke(0), x.revoke(1), x.revoke(20)};
        for (int answer : answers) {
            DUE.holds("errors: answered " + answer, answer < 0);
        }
        DUE.holds("errors: nothing has changed", before.equals(Looks.at(x)));
    }
}
