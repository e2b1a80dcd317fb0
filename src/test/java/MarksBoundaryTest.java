import java.util.function.Supplier;

/** The boundary cases that promises 21 to 24 name: mark, unmark, where, nextMark. */
public final class MarksBoundaryTest {
    private static final Checks CHECKS = new Checks();
    private static final int[] FAR = {-2, 9, 41, 2000, 2001, Integer.MAX_VALUE, Integer.MIN_VALUE};

    public static void main(String[] args) {
        CHECKS.runAll(MarksBoundaryTest.class);
    }

    private static void dueNotMarked(int m, int at) {
        CHECKS.dueAndUnchanged("mark(" + m + ", " + at + ", true)", Starts::branched, x -> x.mark(m, at, true));
        CHECKS.dueAndUnchanged("mark(" + m + ", " + at + ", false)", Starts::branched, x -> x.mark(m, at, false));
    }

    private static void dueMarked(int m, int at) {
        BranchingText x = Starts.branched();
        CHECKS.due("mark(" + m + ", " + at + ", true)", x.mark(m, at, true), true);
        CHECKS.due("where(" + m + ")", x.where(m), at);
    }

    /** "refused with false when there is no mark m". */
    static void markTakesTheFirstAndTheLastMark() {
        dueMarked(0, 1);
        dueMarked(5, 1);
        dueNotMarked(-1, 1);
        dueNotMarked(6, 1);
        for (int m : FAR) {
            dueNotMarked(m, 1);
        }
    }

    /** "or no such position": for marks that are set, of which 1 leans to the right, and one that is not. */
    static void markTakesTheFirstAndTheLastPosition() {
        for (int m = 0; m <= 2; m++) {
            dueMarked(m, 0);
            dueMarked(m, 7);
            dueNotMarked(m, -1);
            dueNotMarked(m, 8);
            for (int at : FAR) {
                dueNotMarked(m, at);
            }
        }
    }

    /** Both reasons to refuse at once. */
    static void markRefusesNoMarkAtNoPosition() {
        dueNotMarked(-1, -1);
        dueNotMarked(-1, 8);
        dueNotMarked(6, -1);
        dueNotMarked(6, 8);
    }

    static void markTakesTheOnePositionOfTheEmptyText() {
        CHECKS.dueAndUnchanged("mark(0, 1, true)", BranchingText::new, x -> x.mark(0, 1, true));
        CHECKS.dueAndUnchanged("mark(0, -1, true)", BranchingText::new, x -> x.mark(0, -1, true));
        BranchingText x = new BranchingText();
        CHECKS.due("mark(0, 0, true)", x.mark(0, 0, true), true);
        CHECKS.due("where(0)", x.where(0), 0);
    }

    /** "leaning to the right or not, wherever it was": also where it is already. */
    static void markSetsAnewWhereItIs() {
        BranchingText x = Starts.branched();
        CHECKS.due("mark(0, 3, true)", x.mark(0, 3, true), true);
        CHECKS.due("mark(1, 3, false)", x.mark(1, 3, false), true);
        x.insert(3);
        CHECKS.due("where(0), which leans to the right now", x.where(0), 5);
        CHECKS.due("where(1), which does not any more", x.where(1), 3);
    }

    /** All six may be at one position. */
    static void markSetsAllAtOnePosition() {
        BranchingText x = Starts.branched();
        for (int m = 0; m <= 5; m++) {
            CHECKS.due("mark(" + m + ", 7, true)", x.mark(m, 7, true), true);
        }
        CHECKS.duePlaces("all at 7", x, 7, 7, 7, 7, 7, 7);
    }

    private static void dueNotUnmarked(int m, Supplier<BranchingText> start) {
        CHECKS.dueAndUnchanged("unmark(" + m + ")", start, x -> x.unmark(m));
    }

    /** "Answers whether it was": the first and the last mark, once. */
    static void unmarkAnswersTrueOnce() {
        BranchingText x = Starts.branched();
        for (int m : new int[] {0, 5}) {
            CHECKS.due("unmark(" + m + ")", x.unmark(m), true);
            CHECKS.due("where(" + m + ")", x.where(m), BranchingText.BAD);
            CHECKS.due("unmark(" + m + ") again", x.unmark(m), false);
        }
        CHECKS.duePlaces("the others", x, BranchingText.BAD, 3, BranchingText.BAD, BranchingText.BAD, 7, BranchingText.BAD);
    }

    /** "Answers whether it was": it was not. */
    static void unmarkRefusesAMarkThatIsNotSet() {
        dueNotUnmarked(2, Starts::branched);
        dueNotUnmarked(3, Starts::branched);
        dueNotUnmarked(0, BranchingText::new);
        dueNotUnmarked(5, BranchingText::new);
    }

    /** "false also when there is no mark m." */
    static void unmarkRefusesWhatIsNoMark() {
        dueNotUnmarked(-1, Starts::branched);
        dueNotUnmarked(6, Starts::branched);
        for (int m : FAR) {
            dueNotUnmarked(m, Starts::branched);
        }
    }

    /** A mark at position 0 is set, though its position is no greater. */
    static void unmarkTakesAMarkAtTheFront() {
        BranchingText x = new BranchingText();
        x.mark(2, 0, false);
        CHECKS.due("unmark(2)", x.unmark(2), true);
        CHECKS.due("nextMark(0)", x.nextMark(0), BranchingText.BAD);
    }

    /** A mark that is set again has nothing from before. */
    static void unmarkForgetsHowAMarkLeans() {
        BranchingText x = Starts.branched();
        x.unmark(1);
        x.insert(0);
        x.mark(1, 3, false);
        x.insert(3);
        CHECKS.due("where(1)", x.where(1), 3);
    }

    private static void dueNowhere(int m, Supplier<BranchingText> start) {
        CHECKS.dueAndUnchanged("where(" + m + ")", start, x -> x.where(m), BranchingText.BAD);
    }

    /** "BAD when there is none": the first and the last mark, and their neighbours. */
    static void whereTakesTheFirstAndTheLastMark() {
        CHECKS.due("where(0)", Starts.branched().where(0), 3);
        CHECKS.due("where(5)", Starts.branched().where(5), 0);
        dueNowhere(-1, Starts::branched);
        dueNowhere(6, Starts::branched);
        for (int m : FAR) {
            dueNowhere(m, Starts::branched);
        }
    }

    /** "or it is not set." */
    static void whereRefusesAMarkThatIsNotSet() {
        dueNowhere(2, Starts::branched);
        dueNowhere(0, BranchingText::new);
        dueNowhere(5, BranchingText::new);
    }

    /** A mark's position is from the first to the last. */
    static void whereTellsZeroTo2000() {
        BranchingText x = Starts.fullOfCharacters();
        CHECKS.due("where(3)", x.where(3), 2000);
        x.mark(3, 0, false);
        CHECKS.due("where(3)", x.where(3), 0);
    }

    private static void dueNoNext(int position, Supplier<BranchingText> start) {
        CHECKS.dueAndUnchanged("nextMark(" + position + ")", start, x -> x.nextMark(position), BranchingText.BAD);
    }

    /** "Of the marks at a position or beyond": one at it counts, one just before it does not. */
    static void nextMarkTakesAMarkAtThePosition() {
        BranchingText x = Starts.branched();
        CHECKS.due("nextMark(0)", x.nextMark(0), 5);
        CHECKS.due("nextMark(1)", x.nextMark(1), 0);
        CHECKS.due("nextMark(3)", x.nextMark(3), 0);
        CHECKS.due("nextMark(4)", x.nextMark(4), 4);
    }

    /** "of several such the least number": not the one that was set first, nor how they lean. */
    static void nextMarkTakesTheLeastNumberOfSeveral() {
        BranchingText x = Checks.holding("abc");
        for (int m = 5; m >= 0; m--) {
            x.mark(m, 2, m % 2 == 0);
            CHECKS.due("nextMark(2)", x.nextMark(2), m);
        }
        for (int m = 0; m < 5; m++) {
            x.unmark(m);
            CHECKS.due("nextMark(0)", x.nextMark(0), m + 1);
        }
    }

    /** "the one with the least position", though a lesser number is beyond it. */
    static void nextMarkTakesTheLeastPositionFirst() {
        BranchingText x = Checks.holding("abc");
        x.mark(0, 3, false);
        x.mark(5, 2, false);
        CHECKS.due("nextMark(0)", x.nextMark(0), 5);
        CHECKS.due("nextMark(2)", x.nextMark(2), 5);
        CHECKS.due("nextMark(3)", x.nextMark(3), 0);
    }

    /** "BAD when there is no such mark": none is set, or all are before the position. */
    static void nextMarkRefusesWithoutMarks() {
        dueNoNext(0, BranchingText::new);
        Supplier<BranchingText> marksBefore = () -> {
            BranchingText x = Starts.branched();
            x.unmark(4);
            return x;
        };
        CHECKS.due("nextMark(3)", marksBefore.get().nextMark(3), 0);
        dueNoNext(4, marksBefore);
        dueNoNext(7, marksBefore);
    }

    /** "or no such position": though there are marks, and before all of them. */
    static void nextMarkTakesTheFirstAndTheLastPosition() {
        CHECKS.due("nextMark(0)", Starts.branched().nextMark(0), 5);
        CHECKS.due("nextMark(7)", Starts.branched().nextMark(7), 4);
        dueNoNext(-1, Starts::branched);
        dueNoNext(8, Starts::branched);
        for (int position : FAR) {
            dueNoNext(position, Starts::branched);
        }
    }

    /** Both reasons to refuse at once. */
    static void nextMarkRefusesNoPositionWithoutMarks() {
        dueNoNext(-1, BranchingText::new);
        dueNoNext(1, BranchingText::new);
    }

    static void nextMarkOfTheEmptiedTextHasOnePosition() {
        BranchingText x = Starts.branched();
        x.delete(0, 7);
        CHECKS.due("nextMark(0)", x.nextMark(0), 0);
        CHECKS.due("nextMark(1)", x.nextMark(1), BranchingText.BAD);
    }
}
