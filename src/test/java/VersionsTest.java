/** Promises 6 to 14: insert, delete, undo, redo, goTo, version, versions, parent, children. */
public final class VersionsTest {
    private static final Checks CHECKS = new Checks();

    public static void main(String[] args) {
        CHECKS.runAll(VersionsTest.class);
    }

    static void insertAtEveryPosition() {
        for (int at = 0; at <= 4; at++) {
            BranchingText x = Checks.holding("abcd");
            Checks.write(x, "xy\n");
            CHECKS.due("insert(" + at + ")", x.insert(at), 2);
            CHECKS.dueText("insert(" + at + ")", x, "abcd".substring(0, at) + "xy\n" + "abcd".substring(at));
            CHECKS.due("version() behind insert", x.version(), 2);
            CHECKS.due("the scratch stays", x.scratch(), 3);
            CHECKS.due("insert(0) again", x.insert(0), 3);
            CHECKS.dueText("insert(0) again", x, "xy\n" + "abcd".substring(0, at) + "xy\n" + "abcd".substring(at));
        }
    }

    static void deleteEveryStretch() {
        String text = "ab\ncd";
        for (int from = 0; from <= 5; from++) {
            for (int count = 1; count <= 5 - from; count++) {
                BranchingText x = Checks.holding(text);
                String call = "delete(" + from + ", " + count + ")";
                CHECKS.due(call, x.delete(from, count), 2);
                CHECKS.dueText(call, x, text.substring(0, from) + text.substring(from + count));
                CHECKS.due("version() behind " + call, x.version(), 2);
                CHECKS.due("undo() behind " + call, x.undo(), 1);
                CHECKS.dueText("undo() behind " + call, x, text);
                CHECKS.due("redo() behind " + call, x.redo(), 2);
                CHECKS.dueText("redo() behind " + call, x, text.substring(0, from) + text.substring(from + count));
            }
        }
    }

    static void undoAndRedo() {
        BranchingText x = Checks.holding("abc");
        Checks.write(x, "XY");
        x.insert(1);
        x.delete(2, 2);
        x.delete(0, 1);
        String[] texts = {"", "abc", "aXYbc", "aXc", "Xc"};
        for (int v = 3; v >= 0; v--) {
            CHECKS.due("undo() to " + v, x.undo(), v);
            CHECKS.dueText("undo() to " + v, x, texts[v]);
            CHECKS.due("version() behind undo", x.version(), v);
        }
        CHECKS.due("undo() in version 0", x.undo(), BranchingText.BAD);
        CHECKS.due("version() behind the refused undo", x.version(), 0);
        for (int v = 1; v <= 4; v++) {
            CHECKS.due("redo() to " + v, x.redo(), v);
            CHECKS.dueText("redo() to " + v, x, texts[v]);
        }
        CHECKS.due("redo() in a version without children", x.redo(), BranchingText.BAD);
        CHECKS.due("version() behind the refused redo", x.version(), 4);
        CHECKS.dueText("behind the refused redo", x, "Xc");
        CHECKS.due("versions() behind steps", x.versions(), 5);
    }

    static void redoTakesTheChildMadeLast() {
        BranchingText x = Checks.holding("abc");
        x.delete(0, 1);
        x.undo();
        x.delete(1, 1);
        x.undo();
        x.delete(2, 1);
        x.undo();
        CHECKS.due("redo() of three children", x.redo(), 4);
        CHECKS.dueText("redo() of three children", x, "ab");
        CHECKS.due("goTo(2)", x.goTo(2), 2);
        CHECKS.due("undo()", x.undo(), 1);
        CHECKS.due("redo() takes what was made last, not what was gone to last", x.redo(), 4);
        x.goTo(2);
        x.delete(0, 1);
        x.goTo(1);
        CHECKS.due("redo() takes a child, not a grandchild", x.redo(), 4);
        x.goTo(0);
        CHECKS.due("redo() in version 0", x.redo(), 1);
    }

    /** Version 0 has 1 and 6; 1 has 2 and 4; 2 has 3; 4 has 5. */
    private static BranchingText branched() {
        BranchingText x = Checks.holding("abcd");
        Checks.write(x, "XY");
        x.insert(2);
        x.delete(0, 3);
        x.goTo(1);
        x.delete(3, 1);
        x.insert(3);
        x.goTo(0);
        x.insert(0);
        return x;
    }

    static void goToCountsItsSteps() {
        String[] texts = {"", "abcd", "abXYcd", "Ycd", "abc", "abcXY", "XY"};
        int[][] steps = {
            {0, 1, 2, 3, 2, 3, 1}, {1, 0, 1, 2, 1, 2, 2}, {2, 1, 0, 1, 2, 3, 3}, {3, 2, 1, 0, 3, 4, 4},
            {2, 1, 2, 3, 0, 1, 3}, {3, 2, 3, 4, 1, 0, 4}, {1, 2, 3, 4, 3, 4, 0},
        };
        for (int from = 0; from < 7; from++) {
            for (int to = 0; to < 7; to++) {
                BranchingText x = branched();
                x.goTo(from);
                String call = "goTo(" + to + ") from " + from;
                CHECKS.due(call, x.goTo(to), steps[from][to]);
                CHECKS.due("version() behind " + call, x.version(), to);
                CHECKS.dueText(call, x, texts[to]);
                CHECKS.due("versions() behind " + call, x.versions(), 7);
            }
        }
    }

    static void theTreeIsTold() {
        BranchingText x = branched();
        int[] parents = {BranchingText.BAD, 0, 1, 2, 1, 4, 0};
        int[] children = {2, 2, 1, 0, 1, 0, 0};
        for (int there = 0; there < 7; there++) {
            x.goTo(there);
            for (int v = 0; v < 7; v++) {
                CHECKS.due("parent(" + v + ")", x.parent(v), parents[v]);
                CHECKS.due("children(" + v + ")", x.children(v), children[v]);
            }
        }
        CHECKS.due("versions()", x.versions(), 7);
        CHECKS.due("version()", x.version(), 6);
    }
}
