/** Objects in the states that the boundary tests begin with. */
final class Starts {
    /** What fullOfCharacters has fifty times: forty characters, none twice, with a newline as the last. */
    static final String FORTY = "0123456789:;<=>?@ABCDEFGHIJKLMNOPQRSTUV\n";

    private Starts() {
    }

    /**
     * Version 3, "ab\ncdxy", is there. Version 0 has 1, "ab\ncd"; 1 has 2, "acd", and 3; 3 has 4,
     * "xyab\ncdxy". The scratch is "xy". Marks 0 and 1 are at 3, 4 at 7, 5 at 0; 1 and 5 lean to the right.
     */
    static BranchingText branched() {
        BranchingText x = Checks.holding("ab\ncd");
        x.delete(1, 2);
        x.undo();
        Checks.write(x, "xy");
        x.insert(5);
        x.insert(0);
        x.undo();
        x.mark(0, 3, false);
        x.mark(1, 3, true);
        x.mark(4, 7, false);
        x.mark(5, 0, true);
        return x;
    }

    static BranchingText branchedWithEmptyScratch() {
        BranchingText x = branched();
        x.wipe();
        return x;
    }

    /** A row of versions, in turn "a" and the empty text; the last one, made and there, has the number. */
    static BranchingText rowOfVersions(int last) {
        BranchingText x = new BranchingText();
        x.type('a');
        x.mark(0, 0, true);
        x.mark(1, 0, false);
        for (int v = 1; v <= last; v++) {
            if (v % 2 == 1) {
                x.insert(0);
            } else {
                x.delete(0, 1);
            }
        }
        return x;
    }

    /** Version 121, "a", is there: no number is left. */
    static BranchingText fullOfVersions() {
        return rowOfVersions(121);
    }

    static BranchingText fullOfVersionsWithEmptyScratch() {
        BranchingText x = fullOfVersions();
        x.wipe();
        return x;
    }

    /** Version 50, FORTY fifty times, is there: 2000 characters. */
    static BranchingText fullOfCharacters() {
        BranchingText x = insertedOften(50, FORTY);
        x.mark(2, 1000, true);
        x.mark(3, 2000, false);
        return x;
    }

    /** A piece is inserted so often, each time at the front, and stays in the scratch. */
    static BranchingText insertedOften(int times, String piece) {
        BranchingText x = new BranchingText();
        Checks.write(x, piece);
        for (int i = 0; i < times; i++) {
            x.insert(0);
        }
        return x;
    }

    /** So many insertions of so many characters; the scratch has one more, "z". */
    static BranchingText inserted(int times, int size) {
        BranchingText x = insertedOften(times, Checks.repeated('a', size));
        Checks.write(x, "z");
        return x;
    }

    /** 120 versions beside version 0 with 1984 characters; the scratch has 16, which fit in the last one. */
    static BranchingText beforeBothLimits() {
        BranchingText x = insertedOften(64, Checks.repeated('a', 17));
        x.copy(0, 16);
        for (int i = 0; i < 56; i++) {
            x.insert(0);
        }
        return x;
    }
}
