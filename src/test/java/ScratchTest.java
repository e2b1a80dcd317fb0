/** Promises 1 to 5: a new object, type, wipe, scratch, copy. */
public final class ScratchTest {
    private static final Checks CHECKS = new Checks();

    public static void main(String[] args) {
        newObject();
        typeTakesItsCharactersAlone();
        typeStopsAtForty();
        wipeEmptiesTheScratchAlone();
        scratchCounts();
        copyTakesStretches();
        copyRefuses();
        copyIsOfTheTextThatIsThere();
        CHECKS.end("ScratchTest");
    }

    private static void newObject() {
        BranchingText x = new BranchingText();
        CHECKS.due("new: length()", x.length(), 0);
        CHECKS.due("new: lines()", x.lines(), 1);
        CHECKS.due("new: version()", x.version(), 0);
        CHECKS.due("new: versions()", x.versions(), 1);
        CHECKS.due("new: scratch()", x.scratch(), 0);
        CHECKS.due("new: children(0)", x.children(0), 0);
        CHECKS.due("new: parent(0)", x.parent(0), BranchingText.BAD);
        CHECKS.due("new: undo()", x.undo(), BranchingText.BAD);
        CHECKS.due("new: redo()", x.redo(), BranchingText.BAD);
        CHECKS.due("new: goTo(0)", x.goTo(0), 0);
        CHECKS.due("new: nextMark(0)", x.nextMark(0), BranchingText.BAD);
        for (int m = 0; m < 6; m++) {
            CHECKS.due("new: where(" + m + ")", x.where(m), BranchingText.BAD);
            CHECKS.due("new: unmark(" + m + ")", x.unmark(m), false);
        }
    }

    private static void typeTakesItsCharactersAlone() {
        for (int c = 0; c <= Character.MAX_VALUE; c++) {
            BranchingText x = new BranchingText();
            boolean allowed = c == 10 || (c >= 32 && c <= 126);
            CHECKS.due("type((char) " + c + ")", x.type((char) c), allowed);
            CHECKS.due("scratch() behind type((char) " + c + ")", x.scratch(), allowed ? 1 : 0);
            if (allowed) {
                x.insert(0);
                CHECKS.due("at(0) behind type((char) " + c + ")", x.at(0), c);
            }
        }
    }

    private static void typeStopsAtForty() {
        BranchingText x = new BranchingText();
        StringBuilder typed = new StringBuilder();
        for (int i = 0; i < 40; i++) {
            char c = (char) ('A' + i);
            CHECKS.due("type number " + i, x.type(c), true);
            typed.append(c);
        }
        CHECKS.due("the 41st type", x.type('z'), false);
        CHECKS.due("the 41st type, of a wrong character", x.type((char) 9), false);
        CHECKS.dueScratch("forty typed", x, typed.toString());
        x.wipe();
        CHECKS.due("type behind wipe", x.type('z'), true);
        CHECKS.dueScratch("typed behind wipe", x, "z");
    }

    private static void wipeEmptiesTheScratchAlone() {
        BranchingText x = Checks.holding("abc");
        x.mark(2, 1, true);
        x.wipe();
        String empty = Checks.stateOf(x);
        Checks.write(x, "xy");
        CHECKS.due("scratch() before wipe", x.scratch(), 2);
        x.wipe();
        CHECKS.dueSame("wipe", Checks.stateOf(x), empty);
        x.wipe();
        CHECKS.dueSame("wipe again", Checks.stateOf(x), empty);
        CHECKS.due("insert behind wipe", x.insert(0), BranchingText.EMPTY);
    }

    private static void scratchCounts() {
        BranchingText x = new BranchingText();
        for (int i = 0; i < 45; i++) {
            CHECKS.due("scratch() behind " + i + " types", x.scratch(), Math.min(i, 40));
            x.type('q');
        }
        x.insert(0);
        CHECKS.due("scratch() behind insert", x.scratch(), 40);
        x.copy(3, 7);
        CHECKS.due("scratch() behind copy", x.scratch(), 7);
    }

    private static void copyTakesStretches() {
        BranchingText x = Checks.holding("abcdef\nghi");
        Checks.write(x, "zzzzz");
        CHECKS.due("copy(2, 6)", x.copy(2, 6), 6);
        CHECKS.dueScratch("copy(2, 6)", x, "cdef\ng");
        CHECKS.due("copy(0, 10)", x.copy(0, 10), 10);
        CHECKS.dueScratch("copy(0, 10)", x, "abcdef\nghi");
        CHECKS.due("copy(9, 1)", x.copy(9, 1), 1);
        CHECKS.dueScratch("copy(9, 1)", x, "i");
        CHECKS.due("type behind copy", x.type('!'), true);
        CHECKS.dueScratch("type behind copy", x, "i!");
        CHECKS.due("copy(10, 0)", x.copy(10, 0), 0);
        CHECKS.dueScratch("copy(10, 0)", x, "");
        x.type('k');
        CHECKS.due("copy(0, 0)", x.copy(0, 0), 0);
        CHECKS.dueScratch("copy(0, 0)", x, "");
        CHECKS.due("copy(0, 0) of the empty text", new BranchingText().copy(0, 0), 0);
    }

    private static void copyRefuses() {
        BranchingText x = Checks.holding(Checks.repeated('a', 40));
        Checks.write(x, "bc");
        x.insert(40);
        int[][] wrong = {
            {0, 41}, {2, 41}, {0, 43}, {42, 1}, {41, 2}, {43, 0}, {43, 1}, {-1, 0}, {-1, 1}, {-1, 2}, {0, -1}, {42, -1},
            {1, Integer.MAX_VALUE}, {42, Integer.MAX_VALUE}, {Integer.MAX_VALUE, 1}, {Integer.MAX_VALUE, Integer.MAX_VALUE},
            {Integer.MIN_VALUE, 1}, {Integer.MIN_VALUE, Integer.MIN_VALUE}, {5, Integer.MIN_VALUE}, {-3, Integer.MAX_VALUE},
        };
        for (int[] w : wrong) {
            CHECKS.due("copy(" + w[0] + ", " + w[1] + ")", x.copy(w[0], w[1]), BranchingText.BAD);
        }
        CHECKS.dueScratch("refused copies", x, "bc");
        CHECKS.due("copy(2, 40)", x.copy(2, 40), 40);
        CHECKS.dueScratch("copy(2, 40)", x, Checks.repeated('a', 38) + "bc");
    }

    private static void copyIsOfTheTextThatIsThere() {
        BranchingText x = Checks.holding("abcd");
        x.delete(1, 2);
        CHECKS.due("copy(0, 3) of two characters", x.copy(0, 3), BranchingText.BAD);
        CHECKS.due("copy(0, 2)", x.copy(0, 2), 2);
        CHECKS.dueScratch("copy(0, 2)", x, "ad");
        x.undo();
        CHECKS.dueScratch("the scratch stays over a step", x, "ad");
        CHECKS.due("copy(1, 2)", x.copy(1, 2), 2);
        CHECKS.dueScratch("copy(1, 2)", x, "bc");
    }
}
