import java.util.function.Consumer;
import java.util.function.Supplier;

/**
 * "Nothing is promised beyond the answers and state changes described above": a call that changes something
 * changes that alone. Each test makes a call, sets right what the document says it changes, and holds all
 * that can be told of the object against one on which neither was done.
 */
public final class ChangesTest {
    private static final Checks CHECKS = new Checks();

    public static void main(String[] args) {
        CHECKS.runAll(ChangesTest.class);
    }

    private static void dueNoMore(String what, Consumer<BranchingText> call, Consumer<BranchingText> setRight) {
        Supplier<BranchingText> changedAndSetRight = () -> {
            BranchingText x = Starts.branched();
            call.accept(x);
            setRight.accept(x);
            return x;
        };
        CHECKS.dueSame(what + " changes no more", Whole.of(changedAndSetRight), Whole.of(Starts::branched));
    }

    private static void setScratchRight(BranchingText x) {
        Checks.write(x, "xy");
    }

    /** As Starts.branched sets them. */
    private static void setMarksRight(BranchingText x) {
        x.mark(0, 3, false);
        x.mark(1, 3, true);
        x.unmark(2);
        x.unmark(3);
        x.mark(4, 7, false);
        x.mark(5, 0, true);
    }

    /** "Adds a character at the end of the scratch." The scratch is "beside the text". */
    static void typeChangesTheScratchAlone() {
        dueNoMore("type", x -> x.type('\n'), ChangesTest::setScratchRight);
    }

    /** "The scratch is empty." */
    static void wipeChangesTheScratchAlone() {
        dueNoMore("wipe", BranchingText::wipe, ChangesTest::setScratchRight);
    }

    /** "The scratch becomes a stretch of the text." The stretch stays in the text. */
    static void copyChangesTheScratchAlone() {
        dueNoMore("copy of three", x -> x.copy(1, 3), ChangesTest::setScratchRight);
        dueNoMore("copy of none", x -> x.copy(4, 0), ChangesTest::setScratchRight);
    }

    /** "To STEP BACK from a version is to take its edit back: its parent is there then." */
    static void undoChangesTheVersionThatIsThereAndMarks() {
        dueNoMore("undo", BranchingText::undo, x -> {
            x.redo();
            setMarksRight(x);
        });
    }

    /** "To STEP ON to a child of the version that is there is to make its edit again": no version is made. */
    static void redoChangesTheVersionThatIsThereAndMarks() {
        dueNoMore("redo", BranchingText::redo, x -> {
            x.undo();
            setMarksRight(x);
        });
    }

    /** "Goes to a version". */
    static void goToChangesTheVersionThatIsThereAndMarks() {
        for (int version = 0; version <= 4; version++) {
            int goal = version;
            dueNoMore("goTo(" + goal + ")", x -> x.goTo(goal), x -> {
                x.goTo(3);
                setMarksRight(x);
            });
        }
    }

    /** "Sets mark m at a position, leaning to the right or not, wherever it was." */
    static void markChangesThatMarkAlone() {
        for (int mark = 0; mark <= 5; mark++) {
            int m = mark;
            dueNoMore("mark(" + m + ", 6, true)", x -> x.mark(m, 6, true), ChangesTest::setMarksRight);
            BranchingText x = Starts.branched();
            int[] places = {3, 3, BranchingText.BAD, BranchingText.BAD, 7, 0};
            x.mark(m, 6, true);
            places[m] = 6;
            CHECKS.duePlaces("mark(" + m + ", 6, true)", x, places);
        }
    }

    /** "Mark m is not set any more." */
    static void unmarkChangesThatMarkAlone() {
        for (int mark = 0; mark <= 5; mark++) {
            int m = mark;
            dueNoMore("unmark(" + m + ")", x -> x.unmark(m), ChangesTest::setMarksRight);
            BranchingText x = Starts.branched();
            int[] places = {3, 3, BranchingText.BAD, BranchingText.BAD, 7, 0};
            x.unmark(m);
            places[m] = BranchingText.BAD;
            CHECKS.duePlaces("unmark(" + m + ")", x, places);
        }
    }

    private static void dueOneVersionMore(String what, Consumer<BranchingText> edit) {
        BranchingText x = Starts.branched();
        edit.accept(x);
        CHECKS.due(what + ": version()", x.version(), 5);
        CHECKS.due(what + ": versions()", x.versions(), 6);
        int[] parents = {BranchingText.BAD, 0, 1, 1, 3, 3};
        int[] children = {1, 2, 0, 2, 0, 0};
        int[] latest = {1, 3, BranchingText.BAD, 5, BranchingText.BAD, BranchingText.BAD};
        for (int v = 0; v <= 5; v++) {
            CHECKS.due(what + ": parent(" + v + ")", x.parent(v), parents[v]);
            CHECKS.due(what + ": children(" + v + ")", x.children(v), children[v]);
            x.goTo(v);
            CHECKS.due(what + ": redo() in version " + v, x.redo(), latest[v]);
        }
        CHECKS.dueScratch(what, x, "xy");
    }

    /** "a new version, which is there then": a child of the one that was there, and the other versions stay. */
    static void anEditAddsOneVersionToTheTree() {
        dueOneVersionMore("insert(3)", x -> x.insert(3));
        dueOneVersionMore("delete(2, 4)", x -> x.delete(2, 4));
    }

    /** A version is made by each edit, also where its text is that of a version that is there already. */
    static void editsThatMakeTheSameTextMakeTwoVersions() {
        BranchingText x = Starts.branched();
        CHECKS.due("insert(0), as for version 4", x.insert(0), 5);
        CHECKS.dueText("version 5", x, "xyab\ncdxy");
        CHECKS.due("delete(0, 2), to the text of version 3", x.delete(0, 2), 6);
        CHECKS.dueText("version 6", x, "ab\ncdxy");
        CHECKS.due("versions()", x.versions(), 7);
        CHECKS.due("children(3)", x.children(3), 2);
        CHECKS.due("goTo(3)", x.goTo(3), 2);
    }
}
