/** The boundary cases of the promises 19 to 22: what could be, which changes nothing. */
public final class BoundsOfWhatIfTest {
    private static final Due DUE = new Due();

    private static Scene scene(int promise, String sentence) {
        return new Scene(DUE, promise, sentence);
    }

    public static void main(String[] args) {
        promise19();
        promise20();
        promise21();
        promise22();
        DUE.close("BoundsOfWhatIfTest");
    }

    /** The root and two heads below it, each with so much. */
    private static void threeHeads(Scene s, int amount) {
        s.answers(1, "make", 0, 1);
        s.answers(2, "make", 0, 1);
        for (int head = 0; head <= 2; head++) {
            s.answers(amount, "allot", head, amount);
        }
    }

    private static void fillWithHeads(Scene s) {
        for (int head = 1; head <= 19; head++) {
            s.answers(head, "make", (head - 1) % 4, 1);
        }
    }

    // ---- promise 19

    private static void promise19() {
        fromAndToAreHeads();
        theHeadsAreTheSame();
        atMost100000();
        atMostWhatIsFree();
        atMostWhatIsLeftOfTheShare();
        nothingIsAllowed();
        nothingToABarredHead();
        nothingByRank();
        asMuchAsAVirementMoves();
        ofMoneyTimesAHundredBeyondAnInt();
        itChangesNothing();
    }

    private static void fromAndToAreHeads() {
        Scene s = scene(19, "INVALID_ARGUMENT if there are no such heads");
        threeHeads(s, 100);
        s.invalidOutside(0, 2, "mostFrom", 0, 0, 1);
        s.invalidOutside(0, 2, "mostFrom", 1, 1, 0);
        s.answers(50, "mostFrom", 2, 1);
        s.answers(50, "mostFrom", 1, 2);
        s.answers(50, "mostFrom", 0, 1);
        s.answers(50, "mostFrom", 1, 0);
        s.end();
    }

    private static void theHeadsAreTheSame() {
        Scene s = scene(19, "INVALID_ARGUMENT if .. both are the same");
        threeHeads(s, 100);
        for (int head = 0; head <= 3; head++) {
            s.invalid("mostFrom", head, head);
        }
        s.end();
    }

    private static void atMost100000() {
        Scene s = scene(19, "Returns the greatest amount, at most 100000");
        threeHeads(s, 99999);
        s.answers(50, "setShare", 1, 100);
        s.answers(99999, "mostFrom", 1, 2);
        s.answers(100000, "allot", 1, 1);
        s.answers(100000, "mostFrom", 1, 2);
        s.answers(100001, "allot", 1, 1);
        s.answers(100000, "mostFrom", 1, 2);
        s.answers(200001, "allot", 1, 100000);
        s.answers(100000, "mostFrom", 1, 2);
        s.end();
    }

    private static void atMostWhatIsFree() {
        Scene s = scene(19, "Tells how much could be moved by one virement: of free money");
        threeHeads(s, 100);
        s.answers(0, "commit", 1, 49);
        s.answers(50, "mostFrom", 1, 2);
        s.answers(1, "commit", 1, 1);
        s.answers(50, "mostFrom", 1, 2);
        s.answers(2, "commit", 1, 1);
        s.answers(49, "mostFrom", 1, 2);
        s.answers(0, "pay", 0, 49);
        s.answers(49, "mostFrom", 1, 2);
        s.answers(3, "commit", 1, 48);
        s.answers(1, "mostFrom", 1, 2);
        s.answers(4, "commit", 1, 1);
        s.answers(0, "mostFrom", 1, 2);
        s.end();
    }

    private static void atMostWhatIsLeftOfTheShare() {
        Scene s = scene(19, "Tells how much could be moved by one virement: of its share, with what left");
        threeHeads(s, 99);
        s.answers(49, "mostFrom", 1, 2);
        s.answers(51, "vire", 1, 2, 48);
        s.answers(1, "mostFrom", 1, 2);
        s.answers(50, "vire", 1, 2, 1);
        s.answers(0, "mostFrom", 1, 2);
        s.answers(51, "allot", 1, 1);
        s.answers(1, "mostFrom", 1, 2);
        s.end();
    }

    private static void nothingIsAllowed() {
        Scene s = scene(19, "0 if none is allowed");
        s.answers(1, "make", 0, 1);
        s.answers(0, "mostFrom", 0, 1);
        s.answers(1, "allot", 0, 1);
        s.answers(0, "mostFrom", 0, 1);
        s.answers(2, "allot", 0, 1);
        s.answers(1, "mostFrom", 0, 1);
        s.answers(50, "setShare", 0, 0);
        s.answers(0, "mostFrom", 0, 1);
        s.answers(0, "setShare", 0, 100);
        s.answers(0, "vire", 0, 1, 2);
        s.answers(100, "setShare", 0, 0);
        s.answers(4, "allot", 0, 4);
        s.answers(0, "mostFrom", 0, 1);
        s.end();
    }

    private static void nothingToABarredHead() {
        for (int frozen = 0; frozen <= 2; frozen++) {
            Scene s = scene(19, "0 if none is allowed: one is barred");
            threeHeads(s, 100);
            s.answers(frozen == 0 ? 3 : 1, "freeze", frozen, 1);
            s.answers(0, "mostFrom", 1, 2);
            s.answers(0, "mostFrom", 2, 1);
            s.answers(frozen == 2 ? 50 : 0, "mostFrom", 0, 1);
            s.answers(frozen == 1 ? 50 : 0, "mostFrom", 2, 0);
            s.end();
        }
    }

    private static void nothingByRank() {
        Scene s = scene(19, "0 if none is allowed: of a greater rank, and no kin");
        s.answers(1, "make", 0, 3);
        s.answers(2, "make", 0, 3);
        s.answers(3, "make", 1, 5);
        for (int rank = 4; rank <= 6; rank++) {
            s.answers(rank, "make", 2, rank);
        }
        s.answers(100, "allot", 3, 100);
        s.answers(0, "mostFrom", 3, 2);
        s.answers(0, "mostFrom", 3, 4);
        s.answers(50, "mostFrom", 3, 5);
        s.answers(50, "mostFrom", 3, 6);
        s.answers(50, "mostFrom", 3, 1);
        s.answers(50, "mostFrom", 3, 0);
        s.end();
    }

    private static void asMuchAsAVirementMoves() {
        Scene s = scene(19, "Returns the greatest amount: that one is moved, and one more is not");
        threeHeads(s, 77);
        s.answers(50, "setShare", 1, 33);
        s.answers(25, "mostFrom", 1, 2);
        s.illegal("vire", 1, 2, 26);
        s.answers(52, "vire", 1, 2, 25);
        s.answers(0, "mostFrom", 1, 2);
        s.illegal("vire", 1, 2, 1);
        s.end();
    }

    private static void ofMoneyTimesAHundredBeyondAnInt() {
        Scene s = scene(19, "the greatest amount, of more than 21474836");
        s.answers(1, "make", 0, 0);
        s.answers(50, "setShare", 0, 100);
        for (int time = 1; time <= 216; time++) {
            s.answers(100000, "allot", 0, 100000);
            s.answers(0, "vire", 0, 1, 100000);
        }
        s.answers(21600000, "head", 0, 9);
        s.answers(21600000, "head", 0, 10);
        s.answers(0, "mostFrom", 0, 1);
        s.answers(1, "allot", 0, 1);
        s.answers(1, "mostFrom", 0, 1);
        s.answers(21600000 - 2160000, "wouldLapse", 1);
        s.end();
    }

    private static void itChangesNothing() {
        Scene s = scene(19, "what could be, which changes nothing");
        threeHeads(s, 100);
        s.answersEachTime(3, 50, "mostFrom", 1, 2);
        s.answers(0, "head", 1, 10);
        s.answers(100, "head", 1, 8);
        s.answers(5, "count", 9);
        s.end();
    }

    // ---- promise 20

    private static void promise20() {
        bestGiverToAHead();
        nothingCouldBeMoved();
        theLeastCouldBeMoved();
        invalidBeforeNone();
        itIsAnotherHead();
        theMostComesFirst();
        ofTheSameTheGreatestRank();
        ofTheSameRankTheSmallestNumber();
        ofMoreThanOneVirementMoves();
        noGiverThatIsBarred();
        noGiverToABarredHead();
        allGiversHaveTooGreatARank();
        theLastHeadGives();
        giversWithoutMoneyLeft();
    }

    private static void bestGiverToAHead() {
        Scene s = scene(20, "INVALID_ARGUMENT if there is no such head");
        threeHeads(s, 100);
        s.invalidOutside(0, 2, "bestGiver", 0, 0);
        s.answers(1, "bestGiver", 2);
        s.answers(2, "bestGiver", 1);
        s.answers(1, "bestGiver", 0);
        s.end();
    }

    private static void nothingCouldBeMoved() {
        Scene s = scene(20, "NONE if nothing could be moved");
        s.none("bestGiver", 0);
        s.answers(5, "allot", 0, 5);
        s.none("bestGiver", 0);
        s.answers(1, "make", 0, 1);
        s.none("bestGiver", 0);
        s.answers(0, "bestGiver", 1);
        s.answers(1, "allot", 1, 1);
        s.none("bestGiver", 0);
        s.end();
    }

    private static void theLeastCouldBeMoved() {
        Scene s = scene(20, "NONE if nothing could be moved: not if 1 could be");
        s.answers(1, "make", 0, 1);
        s.answers(2, "allot", 1, 2);
        s.answers(1, "bestGiver", 0);
        s.answers(1, "vire", 1, 0, 1);
        s.none("bestGiver", 0);
        s.end();
    }

    private static void invalidBeforeNone() {
        Scene s = scene(20, "NONE .. is returned only if no error condition applies");
        s.invalidOutside(0, 0, "bestGiver", 0, 0);
        s.none("bestGiver", 0);
        s.end();
    }

    private static void itIsAnotherHead() {
        Scene s = scene(20, "the head from which most could be moved to a head: another head");
        threeHeads(s, 100);
        s.answers(1100, "allot", 2, 1000);
        s.answers(1, "bestGiver", 2);
        s.answers(2, "bestGiver", 1);
        s.answers(2, "bestGiver", 0);
        s.end();
    }

    private static void theMostComesFirst() {
        Scene s = scene(20, "from which most could be moved: one more, whatever the ranks");
        s.answers(1, "make", 0, 9);
        s.answers(2, "make", 0, 1);
        s.answers(3, "make", 0, 9);
        s.answers(100, "allot", 1, 100);
        s.answers(101, "allot", 2, 101);
        s.answers(100, "allot", 3, 100);
        s.answers(1, "bestGiver", 0);
        s.answers(102, "allot", 2, 1);
        s.answers(2, "bestGiver", 0);
        s.answers(0, "commit", 2, 52);
        s.answers(1, "bestGiver", 0);
        s.answers(1, "commit", 1, 51);
        s.answers(3, "bestGiver", 0);
        s.end();
    }

    private static void ofTheSameTheGreatestRank() {
        Scene s = scene(20, "of several the one with the greatest rank");
        for (int head = 1; head <= 4; head++) {
            s.answers(head, "make", 0, head == 3 ? 8 : 7);
            s.answers(100, "allot", head, 100);
        }
        s.answers(3, "bestGiver", 0);
        s.answers(3, "bestGiver", 1);
        s.answers(1, "bestGiver", 3);
        s.answers(5, "make", 0, 9);
        s.answers(100, "allot", 5, 100);
        s.answers(5, "bestGiver", 0);
        s.end();
    }

    private static void ofTheSameRankTheSmallestNumber() {
        Scene s = scene(20, "of those the one with the smallest number");
        for (int head = 1; head <= 4; head++) {
            s.answers(head, "make", 0, 7);
            s.answers(100, "allot", head, 100);
        }
        s.answers(1, "bestGiver", 0);
        s.answers(2, "bestGiver", 1);
        s.answers(1, "bestGiver", 4);
        s.answers(100, "allot", 0, 100);
        s.answers(1, "bestGiver", 4);
        s.end();
    }

    private static void ofMoreThanOneVirementMoves() {
        Scene s = scene(20, "by one virement: of two that could give more than 100000, by their ranks");
        s.answers(1, "make", 0, 3);
        s.answers(2, "make", 0, 4);
        for (int head = 1; head <= 2; head++) {
            s.answers(100000, "allot", head, 100000);
            s.answers(50, "setShare", head, 100);
        }
        s.answers(200000, "allot", 1, 100000);
        s.answers(2, "bestGiver", 0);
        s.answers(0, "commit", 2, 1);
        s.answers(1, "bestGiver", 0);
        s.end();
    }

    private static void noGiverThatIsBarred() {
        Scene s = scene(20, "could be moved: not from a barred head");
        s.answers(1, "make", 0, 5);
        s.answers(2, "make", 1, 5);
        s.answers(3, "make", 0, 1);
        s.answers(100, "allot", 2, 100);
        s.answers(10, "allot", 3, 10);
        s.answers(2, "bestGiver", 0);
        s.answers(2, "freeze", 1, 1);
        s.answers(3, "bestGiver", 0);
        s.answers(3, "freeze", 3, 1);
        s.none("bestGiver", 0);
        s.end();
    }

    private static void noGiverToABarredHead() {
        Scene s = scene(20, "NONE if nothing could be moved: to a barred head");
        threeHeads(s, 100);
        s.answers(1, "freeze", 2, 1);
        s.none("bestGiver", 2);
        s.answers(1, "bestGiver", 0);
        s.answers(3, "freeze", 0, 1);
        s.none("bestGiver", 1);
        s.none("bestGiver", 0);
        s.end();
    }

    private static void allGiversHaveTooGreatARank() {
        Scene s = scene(20, "NONE if nothing could be moved: by the ranks of those that are no kin");
        s.answers(1, "make", 0, 3);
        s.answers(2, "make", 0, 2);
        s.answers(3, "make", 2, 2);
        s.answers(100, "allot", 1, 100);
        s.none("bestGiver", 3);
        s.answers(4, "make", 2, 3);
        s.answers(1, "bestGiver", 4);
        s.answers(1, "bestGiver", 2);
        s.end();
    }

    private static void theLastHeadGives() {
        Scene s = scene(20, "Finds the head: the last of 20");
        fillWithHeads(s);
        s.answers(10, "allot", 19, 10);
        s.answers(19, "bestGiver", 0);
        s.answers(19, "bestGiver", 18);
        s.none("bestGiver", 19);
        s.invalidOutside(0, 19, "bestGiver", 0, 0);
        s.end();
    }

    private static void giversWithoutMoneyLeft() {
        Scene s = scene(20, "from which most could be moved: what is left of the share, not what is free");
        s.answers(1, "make", 0, 5);
        s.answers(2, "make", 0, 5);
        s.answers(1000, "allot", 1, 1000);
        s.answers(10, "allot", 2, 10);
        s.answers(500, "vire", 1, 0, 500);
        s.answers(2, "bestGiver", 0);
        s.answers(500, "revoke", 0);
        s.answers(1, "bestGiver", 0);
        s.end();
    }

    // ---- promise 21

    private static void promise21() {
        richestOfAHead();
        indexIsNotNegative();
        notSoManyHeadsAreBelow();
        noneIsBelow();
        invalidBeforeNoneOfRichest();
        moreFreeMoneyFirst();
        ofTheSameTheGreaterRank();
        thenByNumbers();
        belowToTheDepth4();
        nineteenBelowTheRoot();
    }

    private static void richestOfAHead() {
        Scene s = scene(21, "INVALID_ARGUMENT if there is no such head");
        s.invalidOutside(0, 0, "richest", 0, 0, 0);
        threeHeads(s, 100);
        s.invalidOutside(0, 2, "richest", 0, 0, 0);
        s.answers(1, "richest", 0, 0);
        s.end();
    }

    private static void indexIsNotNegative() {
        Scene s = scene(21, "INVALID_ARGUMENT if .. index is negative");
        threeHeads(s, 100);
        s.invalid("richest", 0, -1);
        s.invalid("richest", 0, -9);
        s.invalid("richest", 0, Integer.MIN_VALUE);
        s.invalid("richest", 1, -1);
        s.answers(1, "richest", 0, 0);
        s.end();
    }

    private static void notSoManyHeadsAreBelow() {
        Scene s = scene(21, "NONE if there are not so many heads below it");
        threeHeads(s, 100);
        s.answers(2, "richest", 0, 1);
        s.none("richest", 0, 2);
        s.none("richest", 0, 19);
        s.none("richest", 0, Integer.MAX_VALUE);
        s.answers(3, "make", 1, 0);
        s.answers(3, "richest", 0, 2);
        s.none("richest", 0, 3);
        s.answers(3, "richest", 1, 0);
        s.none("richest", 1, 1);
        s.answers(5, "undo");
        s.none("richest", 0, 2);
        s.end();
    }

    private static void noneIsBelow() {
        Scene s = scene(21, "the heads below a head: none, and not itself");
        s.answers(100, "allot", 0, 100);
        s.none("richest", 0, 0);
        s.answers(1, "make", 0, 0);
        s.answers(1, "richest", 0, 0);
        s.none("richest", 0, 1);
        s.none("richest", 1, 0);
        s.end();
    }

    private static void invalidBeforeNoneOfRichest() {
        Scene s = scene(21, "NONE .. is returned only if no error condition applies");
        s.invalid("richest", 1, 0);
        s.invalid("richest", 1, 20);
        s.invalid("richest", -1, 20);
        s.invalid("richest", 0, -1);
        s.invalid("richest", -1, -1);
        s.none("richest", 0, 0);
        s.end();
    }

    private static void moreFreeMoneyFirst() {
        Scene s = scene(21, "those with more free money first: by one, whatever the ranks");
        s.answers(1, "make", 0, 9);
        s.answers(2, "make", 0, 0);
        s.answers(10, "allot", 1, 10);
        s.answers(11, "allot", 2, 11);
        s.answers(2, "richest", 0, 0);
        s.answers(1, "richest", 0, 1);
        s.answers(0, "commit", 2, 2);
        s.answers(1, "richest", 0, 0);
        s.answers(2, "richest", 0, 1);
        s.answers(0, "pay", 0, 2);
        s.answers(1, "richest", 0, 0);
        s.end();
    }

    private static void ofTheSameTheGreaterRank() {
        Scene s = scene(21, "of the same those with the greater rank");
        s.answers(1, "make", 0, 3);
        s.answers(2, "make", 0, 4);
        s.answers(3, "make", 0, 3);
        s.answers(2, "richest", 0, 0);
        s.answers(1, "richest", 0, 1);
        s.answers(3, "richest", 0, 2);
        s.answers(5, "allot", 3, 5);
        s.answers(3, "richest", 0, 0);
        s.answers(2, "richest", 0, 1);
        s.end();
    }

    private static void thenByNumbers() {
        Scene s = scene(21, "then by numbers");
        for (int head = 1; head <= 4; head++) {
            s.answers(head, "make", 0, 5);
            s.answers(10, "allot", head, 10);
        }
        for (int index = 0; index <= 3; index++) {
            s.answers(index + 1, "richest", 0, index);
        }
        s.none("richest", 0, 4);
        s.end();
    }

    private static void belowToTheDepth4() {
        Scene s = scene(21, "the heads below a head: to the depth 4, and none beside it");
        for (int head = 1; head <= 4; head++) {
            s.answers(head, "make", head - 1, 5);
            s.answers(head, "allot", head, head);
        }
        s.answers(5, "make", 0, 5);
        s.answers(9, "allot", 5, 9);
        s.answers(5, "richest", 0, 0);
        s.answers(4, "richest", 0, 1);
        s.answers(1, "richest", 0, 4);
        s.answers(4, "richest", 1, 0);
        s.answers(2, "richest", 1, 2);
        s.none("richest", 1, 3);
        s.answers(4, "richest", 3, 0);
        s.none("richest", 3, 1);
        s.none("richest", 4, 0);
        s.end();
    }

    private static void nineteenBelowTheRoot() {
        Scene s = scene(21, "and so on: to the last of 19 below the root");
        fillWithHeads(s);
        for (int head = 1; head <= 19; head++) {
            s.answers(head, "allot", head, head);
        }
        s.answers(19, "richest", 0, 0);
        s.answers(1, "richest", 0, 18);
        s.none("richest", 0, 19);
        s.invalidOutside(0, 19, "richest", 0, 0, 18);
        s.end();
    }

    // ---- promise 22

    private static void promise22() {
        wouldLapseOfAHead();
        nothingWouldLapse();
        roundedForEachHead();
        ofTheHeadAndAllBelow();
        onlyFreeMoneyWouldLapse();
        withACarriedPartOf0Or100();
        asTheYearDoes();
        alsoInTheYear99();
    }

    private static void wouldLapseOfAHead() {
        Scene s = scene(22, "INVALID_ARGUMENT if there is no such head");
        s.invalidOutside(0, 0, "wouldLapse", 0, 0);
        fillWithHeads(s);
        s.answers(10, "allot", 19, 10);
        s.answers(9, "wouldLapse", 19);
        s.invalidOutside(0, 19, "wouldLapse", 0, 0);
        s.end();
    }

    private static void nothingWouldLapse() {
        Scene s = scene(22, "Returns the amount: nothing");
        s.answers(0, "wouldLapse", 0);
        s.answers(100, "allot", 0, 100);
        s.answers(0, "commit", 0, 100);
        s.answers(0, "wouldLapse", 0);
        s.answers(0, "pay", 0, 100);
        s.answers(0, "wouldLapse", 0);
        s.end();
    }

    private static void roundedForEachHead() {
        Scene s = scene(22, "what would lapse of a head and all heads below it: the carried part of each rounded down");
        threeHeads(s, 9);
        s.answers(27, "wouldLapse", 0);
        s.answers(9, "wouldLapse", 1);
        s.answers(10, "allot", 1, 1);
        s.answers(27, "wouldLapse", 0);
        s.answers(9, "wouldLapse", 1);
        s.answers(11, "allot", 1, 1);
        s.answers(10, "wouldLapse", 1);
        s.end();
    }

    private static void ofTheHeadAndAllBelow() {
        Scene s = scene(22, "of a head and all heads below it: from the root to the depth 4");
        for (int head = 1; head <= 4; head++) {
            s.answers(head, "make", head - 1, 5);
            s.answers(head * 10, "allot", head, head * 10);
        }
        s.answers(5, "make", 0, 5);
        s.answers(100, "allot", 5, 100);
        int[] lapsing = {180, 90, 81, 63, 36, 90};
        for (int head = 0; head <= 5; head++) {
            s.answers(lapsing[head], "wouldLapse", head);
        }
        s.end();
    }

    private static void onlyFreeMoneyWouldLapse() {
        Scene s = scene(22, "what would lapse: of free money, frozen or not");
        s.answers(100, "allot", 0, 100);
        s.answers(0, "commit", 0, 50);
        s.answers(20, "pay", 0, 30);
        s.answers(45, "wouldLapse", 0);
        s.answers(1, "freeze", 0, 1);
        s.answers(45, "wouldLapse", 0);
        s.answers(20, "release", 0);
        s.answers(63, "wouldLapse", 0);
        s.end();
    }

    private static void withACarriedPartOf0Or100() {
        Scene s = scene(22, "the carried part (0 to 100 percent)");
        threeHeads(s, 99);
        s.answers(10, "setCarried", 0);
        s.answers(297, "wouldLapse", 0);
        s.answers(0, "setCarried", 1);
        s.answers(297, "wouldLapse", 0);
        s.answers(1, "setCarried", 99);
        s.answers(3, "wouldLapse", 0);
        s.answers(99, "setCarried", 100);
        s.answers(0, "wouldLapse", 0);
        s.end();
    }

    private static void asTheYearDoes() {
        Scene s = scene(22, "if the year ended now: as it does, and changing nothing");
        threeHeads(s, 57);
        s.answers(0, "commit", 1, 20);
        s.answersEachTime(2, 52 + 34 + 52, "wouldLapse", 0);
        s.answers(0, "count", 7);
        s.answers(0, "count", 0);
        s.answers(52 + 34 + 52, "endYear");
        s.answers(5 + 3 + 5, "wouldLapse", 0);
        s.end();
    }

    private static void alsoInTheYear99() {
        Scene s = scene(22, "if the year ended now: also the year 99, which cannot end");
        s.answersEachTime(99, 0, "endYear");
        s.answers(100, "allot", 0, 100);
        s.illegal("endYear");
        s.answers(90, "wouldLapse", 0);
        s.end();
    }
}
