/** The boundary cases of the promises 10 and 11: virements, and the end of a year. */
public final class BoundsOfVirementsTest {
    private static final Due DUE = new Due();

    private static Scene scene(int promise, String sentence) {
        return new Scene(DUE, promise, sentence);
    }

    public static void main(String[] args) {
        promise10();
        whoMayGive();
        howMuchMayLeave();
        promise11();
        DUE.close("BoundsOfVirementsTest");
    }

    /** The root and two heads below it, each with so much. */
    private static void threeHeads(Scene s, int amount) {
        s.answers(1, "make", 0, 1);
        s.answers(2, "make", 0, 1);
        for (int head = 0; head <= 2; head++) {
            s.answers(amount, "allot", head, amount);
        }
    }

    // ---- promise 10: the arguments, and free money

    private static void promise10() {
        vireFromAHead();
        vireToAnotherHead();
        vireToTheSameHead();
        vireFrom1To100000();
        vireAllThatIsFree();
        committedAndSpentMoneyIsNotMoved();
        theTakerMayComeToHaveMore();
        vireInvalidBeforeIllegal();
    }

    private static void vireFromAHead() {
        Scene s = scene(10, "from: a head");
        threeHeads(s, 100);
        s.invalidOutside(0, 2, "vire", 0, 0, 1, 5);
        s.answers(95, "vire", 0, 1, 5);
        s.answers(95, "vire", 2, 1, 5);
        s.end();
    }

    private static void vireToAnotherHead() {
        Scene s = scene(10, "to: another head");
        threeHeads(s, 100);
        s.invalidOutside(0, 2, "vire", 1, 1, 0, 5);
        s.answers(95, "vire", 1, 0, 5);
        s.answers(90, "vire", 1, 2, 5);
        s.answers(105, "head", 0, 5);
        s.answers(105, "head", 2, 5);
        s.end();
    }

    private static void vireToTheSameHead() {
        Scene s = scene(10, "INVALID_ARGUMENT if .. both heads are the same");
        threeHeads(s, 100);
        for (int head = 0; head <= 2; head++) {
            s.invalid("vire", head, head, 1);
        }
        s.invalid("vire", 3, 3, 1);
        s.end();
    }

    private static void vireFrom1To100000() {
        Scene s = scene(10, "amount: 1 to 100000");
        threeHeads(s, 100000);
        s.answers(200000, "allot", 1, 100000);
        s.answers(300000, "allot", 1, 100000);
        s.answers(50, "setShare", 1, 100);
        s.invalidOutside(1, 100000, "vire", 2, 1, 2, 0);
        s.answers(299999, "vire", 1, 2, 1);
        s.answers(199999, "vire", 1, 2, 100000);
        s.answers(200001, "head", 2, 5);
        s.answers(100001, "head", 1, 10);
        s.end();
    }

    private static void vireAllThatIsFree() {
        Scene s = scene(10, "ILLEGAL_STATE if the amount is more than its free money");
        threeHeads(s, 100);
        s.answers(50, "setShare", 1, 100);
        s.answers(0, "commit", 1, 10);
        s.illegal("vire", 1, 2, 91);
        s.answers(1, "vire", 1, 2, 89);
        s.illegal("vire", 1, 2, 2);
        s.answers(0, "vire", 1, 2, 1);
        s.illegal("vire", 1, 2, 1);
        s.end();
    }

    private static void committedAndSpentMoneyIsNotMoved() {
        Scene s = scene(10, "Moves free money");
        threeHeads(s, 100);
        s.answers(50, "setShare", 1, 100);
        s.answers(0, "commit", 1, 60);
        s.answers(40, "pay", 0, 20);
        s.illegal("vire", 1, 2, 41);
        s.answers(0, "vire", 1, 2, 40);
        s.answers(60, "head", 1, 5);
        s.answers(40, "head", 1, 6);
        s.answers(20, "head", 1, 7);
        s.end();
    }

    private static void theTakerMayComeToHaveMore() {
        Scene s = scene(10, "more than 1000000 (which virements can make it)");
        s.answers(1, "make", 0, 0);
        for (int time = 1; time <= 10; time++) {
            s.answers(time * 100000, "allot", 0, 100000);
            s.answers(time * 100000, "allot", 1, 100000);
        }
        s.answers(900000, "vire", 0, 1, 100000);
        s.answers(1100000, "head", 1, 5);
        s.answers(1100000, "head", 1, 8);
        s.end();
    }

    private static void vireInvalidBeforeIllegal() {
        Scene s = scene(10, "INVALID_ARGUMENT .. ILLEGAL_STATE, which is listed first");
        threeHeads(s, 100);
        s.invalid("vire", 1, 2, 100001);
        s.answers(3, "freeze", 0, 1);
        s.invalid("vire", 1, 1, 101);
        s.invalidOutside(1, 100000, "vire", 2, 1, 2, 0);
        s.invalidOutside(0, 2, "vire", 0, 0, 1, 101);
        s.invalidOutside(0, 2, "vire", 1, 1, 0, 101);
        s.illegal("vire", 1, 2, 101);
        s.end();
    }

    // ---- promise 10: who may give to whom

    private static void whoMayGive() {
        aFrozenGiver();
        aFrozenTaker();
        aGiverBelowAFrozenHead();
        aTakerBelowAFrozenHead();
        aboveAFrozenHead();
        toOneBelowWhateverTheRanks();
        toOneAboveWhateverTheRanks();
        toOneUnderTheSameHeadWhateverTheRanks();
        byRankToTheSameOrAGreaterOne();
        ranksWithinFamiliesFurtherApart();
    }

    private static void aFrozenGiver() {
        Scene s = scene(10, "It is allowed if neither is barred: the giving head is frozen");
        threeHeads(s, 100);
        s.answers(1, "freeze", 1, 1);
        s.illegal("vire", 1, 2, 1);
        s.illegal("vire", 1, 0, 1);
        s.answers(0, "freeze", 1, 0);
        s.answers(99, "vire", 1, 2, 1);
        s.end();
    }

    private static void aFrozenTaker() {
        Scene s = scene(10, "It is allowed if neither is barred: the other head is frozen");
        threeHeads(s, 100);
        s.answers(1, "freeze", 2, 1);
        s.illegal("vire", 1, 2, 1);
        s.illegal("vire", 0, 2, 1);
        s.answers(0, "freeze", 2, 0);
        s.answers(99, "vire", 1, 2, 1);
        s.end();
    }

    private static void aGiverBelowAFrozenHead() {
        Scene s = scene(10, "neither is barred: a head above the giving one is frozen");
        twoBranches(s);
        s.answers(4, "freeze", 5, 1);
        s.illegal("vire", 8, 4, 1);
        s.illegal("vire", 8, 0, 1);
        s.illegal("vire", 8, 7, 1);
        s.answers(0, "freeze", 5, 0);
        s.answers(99, "vire", 8, 4, 1);
        s.end();
    }

    private static void aTakerBelowAFrozenHead() {
        Scene s = scene(10, "neither is barred: a head above the other one is frozen");
        twoBranches(s);
        s.answers(4, "freeze", 1, 1);
        s.illegal("vire", 8, 4, 1);
        s.illegal("vire", 0, 4, 1);
        s.illegal("vire", 3, 4, 1);
        s.answers(0, "freeze", 1, 0);
        s.answers(99, "vire", 8, 4, 1);
        s.end();
    }

    private static void aboveAFrozenHead() {
        Scene s = scene(10, "neither is barred, which a head below does not do");
        twoBranches(s);
        s.answers(1, "freeze", 4, 1);
        s.answers(99, "vire", 3, 2, 1);
        s.answers(99, "vire", 0, 1, 1);
        s.end();
    }

    /** Below the root 1, 2, 3, 4, each below the one before, and so 5, 6, 7, 8; all have 100. */
    private static void twoBranches(Scene s) {
        for (int head = 1; head <= 8; head++) {
            s.answers(head, "make", head == 5 ? 0 : head - 1, 9 - head);
        }
        for (int head = 0; head <= 8; head++) {
            s.answers(100, "allot", head, 100);
        }
    }

    private static void toOneBelowWhateverTheRanks() {
        Scene s = scene(10, "one of the heads is below the other one: the taking one");
        twoBranches(s);
        for (int below = 2; below <= 4; below++) {
            s.answers(101 - below, "vire", 1, below, 1);
        }
        s.answers(99, "vire", 7, 8, 1);
        s.end();
    }

    private static void toOneAboveWhateverTheRanks() {
        Scene s = scene(10, "one of the heads is below the other one: the giving one, to the root too");
        s.answers(1, "make", 0, 9);
        s.answers(2, "make", 1, 8);
        s.answers(3, "make", 2, 7);
        s.answers(4, "make", 3, 9);
        s.answers(100, "allot", 4, 100);
        for (int above = 0; above <= 3; above++) {
            s.answers(99 - above, "vire", 4, above, 1);
        }
        s.end();
    }

    private static void toOneUnderTheSameHeadWhateverTheRanks() {
        Scene s = scene(10, "both have the same head above them");
        s.answers(1, "make", 0, 9);
        s.answers(2, "make", 0, 0);
        s.answers(3, "make", 1, 9);
        s.answers(4, "make", 1, 8);
        s.answers(100, "allot", 1, 100);
        s.answers(100, "allot", 3, 100);
        s.answers(99, "vire", 1, 2, 1);
        s.answers(99, "vire", 3, 4, 1);
        s.end();
    }

    private static void byRankToTheSameOrAGreaterOne() {
        Scene s = scene(10, "the rank of the giving head is not greater than that of the other one");
        s.answers(1, "make", 0, 3);
        s.answers(2, "make", 0, 3);
        s.answers(3, "make", 1, 5);
        s.answers(100, "allot", 3, 100);
        int[] ranks = {4, 5, 6};
        for (int rank : ranks) {
            s.answers(rank, "make", 2, rank);
        }
        s.illegal("vire", 3, 4, 1);
        s.answers(99, "vire", 3, 5, 1);
        s.answers(98, "vire", 3, 6, 1);
        s.end();
    }

    private static void ranksWithinFamiliesFurtherApart() {
        Scene s = scene(10, "the same head above them: not one of another depth, nor heads above further apart");
        s.answers(1, "make", 0, 5);
        s.answers(2, "make", 0, 5);
        s.answers(3, "make", 1, 6);
        s.answers(4, "make", 2, 4);
        for (int head = 1; head <= 4; head++) {
            s.answers(100, "allot", head, 100);
        }
        s.illegal("vire", 3, 2, 1);
        s.illegal("vire", 1, 4, 1);
        s.illegal("vire", 3, 4, 1);
        s.answers(99, "vire", 2, 3, 1);
        s.answers(99, "vire", 4, 1, 1);
        s.answers(98, "vire", 4, 3, 1);
        s.end();
    }

    // ---- promise 10: the share

    private static void howMuchMayLeave() {
        halfMayLeaveAtFirst();
        theShareIsRoundedDown();
        theShareIsOfAllThatLeft();
        aShareOf0();
        aShareOf100();
        aShareOf1();
        aShareMadeLess();
        whatCameByVirementsDoesNotCount();
        whatIsAllottedLaterCounts();
        whatIsCarriedForwardCounts();
        whatLeftInTheLastYearDoesNotCount();
        toSeveralHeadsInSum();
    }

    private static void halfMayLeaveAtFirst() {
        Scene s = scene(10, "not more than its share (0 to 100 percent; at first 50)");
        threeHeads(s, 100);
        s.illegal("vire", 1, 2, 51);
        s.answers(50, "vire", 1, 2, 50);
        s.illegal("vire", 1, 2, 1);
        s.end();
    }

    private static void theShareIsRoundedDown() {
        Scene s = scene(10, "Quotients are rounded down: a share of an odd amount");
        threeHeads(s, 99);
        s.illegal("vire", 1, 2, 50);
        s.answers(50, "vire", 1, 2, 49);
        s.illegal("vire", 1, 2, 1);
        s.answers(100, "allot", 0, 1);
        s.answers(51, "allot", 1, 1);
        s.answers(50, "vire", 1, 2, 1);
        s.illegal("vire", 1, 2, 1);
        s.end();
    }

    private static void theShareIsOfAllThatLeft() {
        Scene s = scene(10, "the sum of all that left the giving head by virements in this year, with this one");
        threeHeads(s, 100);
        s.answers(70, "vire", 1, 2, 30);
        s.illegal("vire", 1, 2, 21);
        s.answers(51, "vire", 1, 2, 19);
        s.illegal("vire", 1, 2, 2);
        s.answers(50, "vire", 1, 2, 1);
        s.illegal("vire", 1, 2, 1);
        s.answers(50, "head", 1, 10);
        s.end();
    }

    private static void aShareOf0() {
        Scene s = scene(10, "its share (0 ..)");
        threeHeads(s, 100);
        s.answers(50, "setShare", 1, 0);
        s.illegal("vire", 1, 2, 1);
        s.answers(99, "vire", 2, 1, 1);
        s.end();
    }

    private static void aShareOf100() {
        Scene s = scene(10, "its share (.. to 100 percent)");
        threeHeads(s, 100);
        s.answers(50, "setShare", 1, 100);
        s.answers(80, "vire", 2, 1, 20);
        s.illegal("vire", 1, 2, 101);
        s.answers(20, "vire", 1, 2, 100);
        s.illegal("vire", 1, 2, 1);
        s.end();
    }

    private static void aShareOf1() {
        Scene s = scene(10, "its share, of too little to give a whole");
        threeHeads(s, 99);
        s.answers(50, "setShare", 1, 1);
        s.illegal("vire", 1, 2, 1);
        s.answers(100, "allot", 1, 1);
        s.answers(99, "vire", 1, 2, 1);
        s.illegal("vire", 1, 2, 1);
        s.end();
    }

    private static void aShareMadeLess() {
        Scene s = scene(10, "not more than its share: one made less than what left");
        threeHeads(s, 100);
        s.answers(60, "vire", 1, 2, 40);
        s.answers(50, "setShare", 1, 39);
        s.illegal("vire", 1, 2, 1);
        s.answers(39, "setShare", 1, 40);
        s.illegal("vire", 1, 2, 1);
        s.answers(40, "setShare", 1, 41);
        s.illegal("vire", 1, 2, 2);
        s.answers(59, "vire", 1, 2, 1);
        s.end();
    }

    private static void whatCameByVirementsDoesNotCount() {
        Scene s = scene(10, "(what came by virements does not count)");
        threeHeads(s, 100);
        s.answers(3, "make", 0, 1);
        s.answers(50, "vire", 1, 3, 50);
        s.illegal("vire", 3, 1, 1);
        s.answers(50, "vire", 2, 1, 50);
        s.illegal("vire", 1, 2, 1);
        s.answers(100, "head", 1, 9);
        s.answers(0, "head", 3, 9);
        s.end();
    }

    private static void whatIsAllottedLaterCounts() {
        Scene s = scene(10, "of what was allotted to it in this year, by allot()");
        threeHeads(s, 100);
        s.answers(50, "vire", 1, 2, 50);
        s.answers(51, "allot", 1, 1);
        s.illegal("vire", 1, 2, 1);
        s.answers(52, "allot", 1, 1);
        s.illegal("vire", 1, 2, 2);
        s.answers(51, "vire", 1, 2, 1);
        s.end();
    }

    private static void whatIsCarriedForwardCounts() {
        Scene s = scene(10, "and by what was carried forward");
        threeHeads(s, 100);
        s.answers(10, "setCarried", 21);
        s.answers(0, "commit", 1, 20);
        s.answers(79 + 64 + 79, "endYear");
        s.answers(16, "head", 1, 9);
        s.answers(20, "release", 0);
        s.illegal("vire", 1, 2, 9);
        s.answers(28, "vire", 1, 2, 8);
        s.illegal("vire", 1, 2, 1);
        s.answers(38, "allot", 1, 10);
        s.illegal("vire", 1, 2, 6);
        s.answers(33, "vire", 1, 2, 5);
        s.end();
    }

    private static void whatLeftInTheLastYearDoesNotCount() {
        Scene s = scene(10, "in this year: What left by virements is 0 again");
        threeHeads(s, 100);
        s.answers(10, "setCarried", 100);
        s.answers(50, "vire", 1, 2, 50);
        s.illegal("vire", 1, 2, 1);
        s.answers(0, "endYear");
        s.answers(0, "head", 1, 10);
        s.illegal("vire", 1, 2, 26);
        s.answers(25, "vire", 1, 2, 25);
        s.illegal("vire", 2, 1, 76);
        s.answers(100, "vire", 2, 1, 75);
        s.end();
    }

    private static void toSeveralHeadsInSum() {
        Scene s = scene(10, "the sum of all that left the giving head, to whatever heads");
        threeHeads(s, 100);
        s.answers(70, "vire", 1, 2, 30);
        s.illegal("vire", 1, 0, 21);
        s.answers(50, "vire", 1, 0, 20);
        s.illegal("vire", 1, 2, 1);
        s.end();
    }

    // ---- promise 11

    private static void promise11() {
        theYear99DoesNotEnd();
        nothingLapsesOfNothing();
        theCarriedPartIsRoundedDown();
        eachHeadIsRoundedApart();
        aCarriedPartOf0();
        aCarriedPartOf100();
        onlyFreeMoneyLapses();
        allIsCommitted();
        spentMoneyIsGone();
        theNewYearsFigures();
        frozenHeadsLapseToo();
        allOf20HeadsLapse();
        whatDoesNotEndWithTheYear();
        theCommitmentKeepsItsYear();
        aHeadMadeInALaterYear();
    }

    private static void theYear99DoesNotEnd() {
        Scene s = scene(11, "ILLEGAL_STATE if it is the year 99");
        s.answers(100, "allot", 0, 100);
        s.answers(10, "setCarried", 100);
        for (int year = 0; year <= 98; year++) {
            s.answers(year, "count", 0);
            s.answers(0, "endYear");
        }
        s.answers(99, "count", 0);
        s.answers(100, "setCarried", 0);
        s.illegal("endYear");
        s.answers(100, "head", 0, 5);
        s.answersInTurn(new int[] {11, 10}, "undo");
        s.answers(98, "count", 0);
        s.answers(0, "endYear");
        s.illegal("endYear");
        s.end();
    }

    private static void nothingLapsesOfNothing() {
        Scene s = scene(11, "Returns all that lapses: nothing");
        s.answers(0, "endYear");
        s.answers(1, "count", 0);
        s.answers(0, "count", 7);
        s.answers(9, "deed", 0);
        s.end();
    }

    private static void theCarriedPartIsRoundedDown() {
        int[][] amountsAndLapsing = {{1, 1}, {9, 9}, {10, 9}, {11, 10}, {19, 18}, {20, 18}};
        for (int[] each : amountsAndLapsing) {
            Scene s = scene(11, "the carried part (.. at first 10) stays as free money, rounded down");
            s.answers(each[0], "allot", 0, each[0]);
            s.answers(each[1], "wouldLapse", 0);
            s.answers(each[1], "endYear");
            s.answers(each[0] - each[1], "head", 0, 8);
            s.end();
        }
    }

    private static void eachHeadIsRoundedApart() {
        Scene s = scene(11, "for each head: of its free money the carried part");
        threeHeads(s, 19);
        s.answers(54, "endYear");
        s.answers(3, "total", 0, 3);
        s.answers(3, "count", 6);
        for (int head = 0; head <= 2; head++) {
            s.answers(1, "head", head, 5);
        }
        s.end();
    }

    private static void aCarriedPartOf0() {
        Scene s = scene(11, "the carried part (0 ..)");
        threeHeads(s, 100);
        s.answers(10, "setCarried", 0);
        s.answers(300, "endYear");
        s.answers(0, "total", 0, 0);
        s.answers(300, "count", 7);
        s.end();
    }

    private static void aCarriedPartOf100() {
        Scene s = scene(11, "the carried part (.. to 100 percent)");
        threeHeads(s, 101);
        s.answers(10, "setCarried", 100);
        s.answers(0, "endYear");
        s.answers(303, "total", 0, 0);
        s.answers(100, "setCarried", 99);
        s.answers(6, "endYear");
        s.answers(297, "total", 0, 0);
        s.end();
    }

    private static void onlyFreeMoneyLapses() {
        Scene s = scene(11, "of its free money .. the rest lapses; what is committed stays committed");
        s.answers(100, "allot", 0, 100);
        s.answers(0, "commit", 0, 70);
        s.answers(50, "pay", 0, 20);
        s.answers(27, "endYear");
        s.answers(53, "head", 0, 5);
        s.answers(50, "head", 0, 6);
        s.answers(0, "head", 0, 7);
        s.answers(3, "head", 0, 8);
        s.answers(50, "commitment", 0, 1);
        s.end();
    }

    private static void allIsCommitted() {
        Scene s = scene(11, "what is committed stays committed: when nothing is free");
        s.answers(100, "allot", 0, 100);
        s.answers(0, "commit", 0, 100);
        s.answers(0, "endYear");
        s.answers(100, "head", 0, 5);
        s.answers(0, "head", 0, 8);
        s.answers(0, "head", 0, 9);
        s.illegal("commit", 0, 1);
        s.answers(100, "release", 0);
        s.answers(90, "endYear");
        s.end();
    }

    private static void spentMoneyIsGone() {
        Scene s = scene(11, "spent money is gone (.. and spent money is 0): when all is spent");
        s.answers(100, "allot", 0, 100);
        s.answers(0, "commit", 0, 100);
        s.answers(0, "pay", 0, 100);
        s.answers(0, "endYear");
        s.answers(0, "head", 0, 5);
        s.answers(0, "head", 0, 7);
        s.answers(0, "head", 0, 8);
        s.answers(100, "count", 8);
        s.answers(100, "commitment", 0, 2);
        s.answers(0, "count", 7);
        s.end();
    }

    private static void theNewYearsFigures() {
        Scene s = scene(11, "what was allotted in the new year is, at first, what is carried forward");
        threeHeads(s, 100);
        s.answers(60, "vire", 1, 2, 40);
        s.answers(0, "commit", 1, 10);
        s.answers(90 + 45 + 126, "endYear");
        int[] allotments = {10, 15, 14};
        int[] carried = {10, 5, 14};
        for (int head = 0; head <= 2; head++) {
            s.answers(allotments[head], "head", head, 5);
            s.answers(carried[head], "head", head, 8);
            s.answers(carried[head], "head", head, 9);
            s.answers(0, "head", head, 10);
        }
        s.answers(17, "allot", 2, 3);
        s.answers(17, "head", 2, 9);
        s.end();
    }

    private static void frozenHeadsLapseToo() {
        Scene s = scene(11, "for each head: a frozen one too, which stays frozen");
        threeHeads(s, 100);
        s.answers(3, "freeze", 0, 1);
        s.answers(270, "endYear");
        s.answers(1, "head", 0, 3);
        s.answers(3, "count", 4);
        s.end();
    }

    private static void allOf20HeadsLapse() {
        Scene s = scene(11, "for each head: the last of 20 too");
        for (int head = 1; head <= 19; head++) {
            s.answers(head, "make", (head - 1) / 4, 1);
        }
        for (int head = 0; head <= 19; head++) {
            s.answers(10 + head, "allot", head, 10 + head);
        }
        s.answers(390 - 30, "endYear");
        s.answers(1, "head", 0, 5);
        s.answers(1, "head", 9, 5);
        s.answers(2, "head", 10, 5);
        s.answers(2, "head", 19, 5);
        s.end();
    }

    private static void whatDoesNotEndWithTheYear() {
        Scene s = scene(11, "When a year ends: shares, ranks and the carried part stay");
        threeHeads(s, 100);
        s.answers(50, "setShare", 1, 70);
        s.answers(10, "setCarried", 30);
        s.answers(210, "endYear");
        s.answers(70, "head", 1, 11);
        s.answers(1, "head", 1, 2);
        s.answers(30, "count", 5);
        s.end();
    }

    private static void theCommitmentKeepsItsYear() {
        Scene s = scene(11, "Years are numbered from 0");
        s.answers(100, "allot", 0, 100);
        s.answers(0, "commit", 0, 10);
        s.answers(81, "endYear");
        s.answers(1, "commit", 0, 9);
        s.answers(0, "endYear");
        s.answers(0, "commitment", 0, 3);
        s.answers(1, "commitment", 1, 3);
        s.answers(2, "count", 0);
        s.end();
    }

    private static void aHeadMadeInALaterYear() {
        Scene s = scene(11, "for each head: nothing is carried forward to one made in a later year");
        s.answers(10, "setCarried", 100);
        s.answers(7, "allot", 0, 7);
        s.answers(0, "endYear");
        s.answers(1, "make", 0, 1);
        for (int what = 5; what <= 10; what++) {
            s.answers(0, "head", 1, what);
        }
        s.answers(7, "total", 0, 0);
        s.answers(0, "endYear");
        s.answers(0, "head", 1, 5);
        s.end();
    }
}
