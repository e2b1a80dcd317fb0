/** The boundary cases that promises 1 to 5 name: a new object, type, wipe, scratch, copy. */
public final class ScratchBoundaryTest {
    private static final Checks CHECKS = new Checks();

    public static void main(String[] args) {
        CHECKS.runAll(ScratchBoundaryTest.class);
    }

    private static BranchingText withFortyInScratch() {
        BranchingText x = Starts.branched();
        Checks.write(x, Starts.FORTY);
        return x;
    }

    /** 42 characters, "aa .. abc"; the scratch is "bc". */
    private static BranchingText with42InText() {
        BranchingText x = Checks.holding(Checks.repeated('a', 40));
        Checks.write(x, "bc");
        x.insert(40);
        return x;
    }

    /** "The empty text as version 0". */
    static void aNewObjectHasTheEmptyText() {
        BranchingText x = new BranchingText();
        CHECKS.due("length()", x.length(), 0);
        CHECKS.due("at(0)", x.at(0), 0);
        CHECKS.due("lines()", x.lines(), 1);
        CHECKS.due("version()", x.version(), 0);
        CHECKS.due("versions()", x.versions(), 1);
        CHECKS.due("parent(0)", x.parent(0), BranchingText.BAD);
        CHECKS.due("children(0)", x.children(0), 0);
    }

    /** "an empty scratch". */
    static void aNewObjectHasAnEmptyScratch() {
        BranchingText x = new BranchingText();
        CHECKS.due("scratch()", x.scratch(), 0);
        CHECKS.due("insert(0)", x.insert(0), BranchingText.EMPTY);
        CHECKS.due("find(0)", x.find(0), BranchingText.EMPTY);
    }

    /** "no marks". */
    static void aNewObjectHasNoMarks() {
        BranchingText x = new BranchingText();
        for (int m = 0; m <= 5; m++) {
            CHECKS.due("where(" + m + ")", x.where(m), BranchingText.BAD);
            CHECKS.due("unmark(" + m + ")", x.unmark(m), false);
        }
        CHECKS.due("nextMark(0)", x.nextMark(0), BranchingText.BAD);
    }

    /** A new object is new, and those that are used already are not touched by it, nor by one another. */
    static void aNewObjectHasNothingInCommonWithOthers() {
        BranchingText full = Starts.fullOfCharacters();
        BranchingText last = Starts.fullOfVersions();
        BranchingText branched = Starts.branched();
        CHECKS.due("versions() of a new object beside others", new BranchingText().versions(), 1);
        CHECKS.due("insert beyond 2000", full.insert(0), BranchingText.FULL);
        CHECKS.due("length()", full.length(), 2000);
        CHECKS.duePlaces("marks", full, BranchingText.BAD, BranchingText.BAD, 1000, 2000);
        CHECKS.due("insert of a 123rd version", last.insert(0), BranchingText.FULL);
        CHECKS.due("undo()", last.undo(), 120);
        CHECKS.due("insert(0)", branched.insert(0), 5);
        CHECKS.dueText("insert(0)", branched, "xyab\ncdxy");
    }

    private static void dueTyped(int c) {
        BranchingText x = Starts.branched();
        CHECKS.due("type((char) " + c + ")", x.type((char) c), true);
        CHECKS.dueScratch("type((char) " + c + ")", x, "xy" + (char) c);
    }

    private static void dueNotTyped(int c) {
        CHECKS.dueAndUnchanged("type((char) " + c + ")", Starts::branched, x -> x.type((char) c));
    }

    /** "refused with false when c is neither 10": its neighbours are refused. */
    static void typeTakesTen() {
        dueTyped(10);
        dueNotTyped(9);
        dueNotTyped(11);
        dueNotTyped(13);
    }

    /** "nor 32 .. 126". */
    static void typeTakes32AndNot31() {
        dueTyped(32);
        dueNotTyped(31);
    }

    /** "nor 32 .. 126". */
    static void typeTakes126AndNot127() {
        dueTyped(126);
        dueNotTyped(127);
    }

    /** The least and the greatest char, and those that would be taken if only their low bits counted. */
    static void typeTakesNoneOfTheFarCharacters() {
        for (int c : new int[] {0, 128, 128 + 10, 128 + 'a', 255, 256, 256 + 10, 256 + 'a', 32768 + 10, 32768 + 'a', 65535}) {
            dueNotTyped(c);
        }
    }

    /** "or the scratch has 40." */
    static void typeTakesTheFortiethAndNotTheNext() {
        BranchingText x = new BranchingText();
        for (int i = 0; i < 39; i++) {
            x.type(Starts.FORTY.charAt(i));
        }
        CHECKS.due("scratch()", x.scratch(), 39);
        CHECKS.due("the 40th", x.type('\n'), true);
        CHECKS.dueScratch("forty typed", x, Starts.FORTY);
        CHECKS.dueAndUnchanged("the 41st", ScratchBoundaryTest::withFortyInScratch, y -> y.type('z'));
        CHECKS.dueAndUnchanged("the 41st, a newline", ScratchBoundaryTest::withFortyInScratch, y -> y.type('\n'));
    }

    /** "the scratch has 40", copied instead of typed. */
    static void typeTakesNoneBehindFortyThatWereCopied() {
        BranchingText x = with42InText();
        x.copy(2, 40);
        CHECKS.due("type behind 40 copied", x.type('z'), false);
        x.copy(2, 39);
        CHECKS.due("type behind 39 copied", x.type('z'), true);
        CHECKS.due("scratch()", x.scratch(), 40);
    }

    /** Both reasons to refuse at once. */
    static void typeRefusesAWrongCharacterWhenTheScratchHasForty() {
        CHECKS.dueAndUnchanged("type of 9 as the 41st", ScratchBoundaryTest::withFortyInScratch, x -> x.type((char) 9));
    }

    /** "The scratch is empty." */
    static void wipeEmptiesNoneOneAndForty() {
        BranchingText x = new BranchingText();
        x.wipe();
        CHECKS.due("scratch() behind wipe of none", x.scratch(), 0);
        x.type('a');
        x.wipe();
        CHECKS.due("scratch() behind wipe of one", x.scratch(), 0);
        Checks.write(x, Starts.FORTY);
        x.wipe();
        CHECKS.due("scratch() behind wipe of forty", x.scratch(), 0);
        CHECKS.due("type behind wipe of forty", x.type('z'), true);
        CHECKS.dueScratch("type behind wipe of forty", x, "z");
    }

    /** "How many characters the scratch has." */
    static void scratchTellsNoneToForty() {
        BranchingText x = new BranchingText();
        for (int i = 0; i < 40; i++) {
            CHECKS.due("scratch() behind " + i, x.scratch(), i);
            x.type('q');
        }
        CHECKS.due("scratch() behind 40", x.scratch(), 40);
        x.type('q');
        CHECKS.due("scratch() behind a refused type", x.scratch(), 40);
    }

    private static void dueNotCopied(int from, int count) {
        String call = "copy(" + from + ", " + count + ")";
        CHECKS.dueAndUnchanged(call, ScratchBoundaryTest::with42InText, x -> x.copy(from, count), BranchingText.BAD);
    }

    private static void dueCopied(int from, int count, String want) {
        BranchingText x = with42InText();
        CHECKS.due("copy(" + from + ", " + count + ")", x.copy(from, count), count);
        CHECKS.dueScratch("copy(" + from + ", " + count + ")", x, want);
        CHECKS.due("versions()", x.versions(), want.isEmpty() ? 3 : 4);
    }

    /** "BAD when there is no such stretch": its start. */
    static void copyTakesTheFirstAndTheLastPosition() {
        dueCopied(0, 2, "aa");
        dueNotCopied(-1, 2);
        dueNotCopied(-1, 1);
        dueNotCopied(-1, 0);
        dueNotCopied(-2, 2);
        dueCopied(42, 0, "");
        dueNotCopied(43, 0);
        dueNotCopied(43, -1);
    }

    /** "BAD when there is no such stretch": its end. */
    static void copyTakesUpToTheEndOfTheText() {
        dueCopied(40, 2, "bc");
        dueNotCopied(40, 3);
        dueCopied(41, 1, "c");
        dueNotCopied(41, 2);
        dueNotCopied(42, 1);
        dueNotCopied(43, 1);
    }

    /** A stretch has as many characters as its count, so there is none with a negative count. */
    static void copyTakesNoneAndNotLess() {
        dueCopied(0, 0, "");
        dueCopied(21, 0, "");
        dueNotCopied(0, -1);
        dueNotCopied(21, -1);
        dueNotCopied(42, -1);
        dueNotCopied(42, Integer.MIN_VALUE);
    }

    /** "or count is more than 40." */
    static void copyTakesFortyAndNotMore() {
        dueCopied(0, 40, Checks.repeated('a', 40));
        dueCopied(2, 40, Checks.repeated('a', 38) + "bc");
        dueNotCopied(0, 41);
        dueNotCopied(1, 41);
        dueNotCopied(0, 42);
    }

    /** Both reasons to refuse at once: no such stretch, and more than 40. */
    static void copyRefusesMoreThanFortyThatAreNotThere() {
        dueNotCopied(2, 41);
        dueNotCopied(0, 43);
        dueNotCopied(43, 41);
        dueNotCopied(-1, 41);
        dueNotCopied(0, Integer.MAX_VALUE);
    }

    static void copyOfTheEmptyTextIsOfNone() {
        BranchingText x = new BranchingText();
        x.type('a');
        CHECKS.due("copy(0, 1)", x.copy(0, 1), BranchingText.BAD);
        CHECKS.due("copy(1, 0)", x.copy(1, 0), BranchingText.BAD);
        CHECKS.due("scratch() behind the refused", x.scratch(), 1);
        CHECKS.due("copy(0, 0)", x.copy(0, 0), 0);
        CHECKS.due("scratch()", x.scratch(), 0);
    }

    static void copyOfTheLongestTextReachesItsEnd() {
        BranchingText x = Starts.fullOfCharacters();
        CHECKS.due("copy(1960, 40)", x.copy(1960, 40), 40);
        CHECKS.due("copy(1961, 40)", x.copy(1961, 40), BranchingText.BAD);
        CHECKS.due("find(1) of what was copied", x.find(1), 40);
        CHECKS.due("copy(1999, 1)", x.copy(1999, 1), 1);
        CHECKS.due("find(0) of the newline", x.find(0), 39);
    }
}
