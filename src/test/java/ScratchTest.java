import java.util.function.Supplier;

/** Promises 2 to 5: type, wipe, scratch, copy. */
public final class ScratchTest {
    private static final Checks CHECKS = new Checks();

    public static void main(String[] args) {
        CHECKS.runAll(ScratchTest.class);
    }

    static void typeTakesItsCharactersAlone() {
        for (int c = 0; c <= Character.MAX_VALUE; c++) {
            BranchingText x = new BranchingText();
            boolean allowed = c == 10 || (c >= 32 && c <= 126);
            CHECKS.due("type((char) " + c + ")", x.type((char) c), allowed);
            CHECKS.due("scratch() behind type((char) " + c + ")", x.scratch(), allowed ? 1 : 0);
            if (allowed) {
                x.insert(0);
                CHECKS.due("at(0) behind type((char) " + c + ")", x.at(0), c);
            }
        }
    }

    static void wipeEmptiesTheScratchAlone() {
        Supplier<BranchingText> neverTyped = () -> {
            BranchingText x = Checks.holding("abc");
            x.mark(2, 1, true);
            return x;
        };
        Supplier<BranchingText> typedAndWiped = () -> {
            BranchingText x = neverTyped.get();
            x.type('x');
            x.type('y');
            x.wipe();
            return x;
        };
        CHECKS.dueSame("type and wipe", Whole.of(typedAndWiped), Whole.of(neverTyped));
        BranchingText x = typedAndWiped.get();
        x.wipe();
        CHECKS.due("scratch() behind a second wipe", x.scratch(), 0);
    }

    static void scratchCountsWhatWasTypedOrCopied() {
        BranchingText x = new BranchingText();
        Checks.write(x, "abc\nde");
        CHECKS.due("scratch() behind six types", x.scratch(), 6);
        x.insert(0);
        CHECKS.due("scratch() behind insert", x.scratch(), 6);
        x.copy(1, 4);
        CHECKS.due("scratch() behind copy", x.scratch(), 4);
    }

    static void copyTakesStretches() {
        BranchingText x = Checks.holding("abcdef\nghi");
        Checks.write(x, "zzzzz");
        CHECKS.due("copy(2, 6)", x.copy(2, 6), 6);
        CHECKS.dueScratch("copy(2, 6)", x, "cdef\ng");
        CHECKS.due("copy(0, 10)", x.copy(0, 10), 10);
        CHECKS.dueScratch("copy(0, 10)", x, "abcdef\nghi");
        CHECKS.due("copy(9, 1)", x.copy(9, 1), 1);
        CHECKS.dueScratch("copy(9, 1)", x, "i");
        CHECKS.due("type behind copy", x.type('!'), true);
        CHECKS.dueScratch("type behind copy", x, "i!");
        CHECKS.due("copy(10, 0)", x.copy(10, 0), 0);
        CHECKS.dueScratch("copy(10, 0)", x, "");
        x.type('k');
        CHECKS.due("copy(0, 0)", x.copy(0, 0), 0);
        CHECKS.dueScratch("copy(0, 0)", x, "");
        CHECKS.due("copy(0, 0) of the empty text", new BranchingText().copy(0, 0), 0);
    }

    static void copyIsOfTheTextThatIsThere() {
        BranchingText x = Checks.holding("abcd");
        x.delete(1, 2);
        CHECKS.due("copy(0, 3) of two characters", x.copy(0, 3), BranchingText.BAD);
        CHECKS.due("copy(0, 2)", x.copy(0, 2), 2);
        CHECKS.dueScratch("copy(0, 2)", x, "ad");
        x.undo();
        CHECKS.dueScratch("the scratch stays over a step", x, "ad");
        CHECKS.due("copy(1, 2)", x.copy(1, 2), 2);
        CHECKS.dueScratch("copy(1, 2)", x, "bc");
    }
}
