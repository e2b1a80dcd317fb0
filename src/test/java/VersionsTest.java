/** Promises 6 to 14: insert, delete, undo, redo, goTo, version, versions, parent, children. */
public final class VersionsTest {
    private static final Checks CHECKS = new Checks();
    private static final int[] NO_VERSIONS = {-1, -2, Integer.MIN_VALUE, Integer.MAX_VALUE, 122, 1000};

    public static void main(String[] args) {
        insertAtEveryPosition();
        insertRefuses();
        insertStopsAtTwoThousand();
        insertionsOfAllBranchesCount();
        versionsStopAtTheLast();
        deleteEveryStretch();
        deleteRefuses();
        undoAndRedo();
        redoTakesTheChildMadeLast();
        goToCountsItsSteps();
        goToRefuses();
        theTreeIsTold();
        CHECKS.end("VersionsTest");
    }

    private static void insertAtEveryPosition() {
        for (int at = 0; at <= 4; at++) {
            BranchingText x = Checks.holding("abcd");
            Checks.write(x, "xy\n");
            CHECKS.due("insert(" + at + ")", x.insert(at), 2);
            CHECKS.dueText("insert(" + at + ")", x, "abcd".substring(0, at) + "xy\n" + "abcd".substring(at));
            CHECKS.due("version() behind insert", x.version(), 2);
            CHECKS.due("the scratch stays", x.scratch(), 3);
            CHECKS.due("insert(0) again", x.insert(0), 3);
            CHECKS.dueText("insert(0) again", x, "xy\n" + "abcd".substring(0, at) + "xy\n" + "abcd".substring(at));
        }
    }

    private static void insertRefuses() {
        BranchingText x = new BranchingText();
        CHECKS.due("insert(0) of nothing", x.insert(0), BranchingText.EMPTY);
        CHECKS.due("insert(1) of nothing", x.insert(1), BranchingText.BAD);
        CHECKS.due("insert(-1) of nothing", x.insert(-1), BranchingText.BAD);
        x.type('a');
        String before = Checks.stateOf(x);
        for (int at : new int[] {1, -1, Integer.MAX_VALUE, Integer.MIN_VALUE}) {
            CHECKS.due("insert(" + at + ")", x.insert(at), BranchingText.BAD);
        }
        CHECKS.dueSame("refused insertions", Checks.stateOf(x), before);
        CHECKS.due("insert(0)", x.insert(0), 1);
        CHECKS.due("insert(2) of a text of one", x.insert(2), BranchingText.BAD);
        CHECKS.due("children(0)", x.children(0), 1);
    }

    private static void insertStopsAtTwoThousand() {
        BranchingText x = new BranchingText();
        Checks.write(x, Checks.repeated('a', 39));
        for (int v = 1; v <= 51; v++) {
            CHECKS.due("insert of 39, number " + v, x.insert(0), v);
        }
        CHECKS.due("length() behind 51 times 39", x.length(), 1989);
        CHECKS.due("insert of 39 beyond 2000", x.insert(0), BranchingText.FULL);
        CHECKS.due("insert of 39 beyond 2000, at a wrong position", x.insert(1990), BranchingText.BAD);
        Checks.write(x, "bbbbbbbbbbbb");
        CHECKS.due("insert of 12 behind 1989", x.insert(1989), BranchingText.FULL);
        CHECKS.due("versions() behind the refused", x.versions(), 52);
        CHECKS.due("length() behind the refused", x.length(), 1989);
        x.copy(0, 11);
        CHECKS.due("insert of 11 behind 1989", x.insert(1989), 52);
        CHECKS.due("length()", x.length(), 2000);
        CHECKS.due("at(1999)", x.at(1999), 'a');
        CHECKS.due("at(2000)", x.at(2000), 0);
        Checks.write(x, "c");
        CHECKS.due("insert of 1 behind 2000", x.insert(0), BranchingText.FULL);
        x.wipe();
        CHECKS.due("insert of nothing behind 2000", x.insert(0), BranchingText.EMPTY);
        CHECKS.due("insert of nothing at 2001", x.insert(2001), BranchingText.BAD);
        CHECKS.due("delete behind 2000", x.delete(0, 2000), 53);
        Checks.write(x, "c");
        CHECKS.due("insert of 1 into the emptied text", x.insert(0), BranchingText.FULL);
        CHECKS.due("undo brings 2000 back", x.undo(), 52);
        CHECKS.due("length() behind undo", x.length(), 2000);
    }

    private static void insertionsOfAllBranchesCount() {
        BranchingText x = new BranchingText();
        Checks.write(x, Checks.repeated('a', 40));
        for (int v = 1; v <= 50; v++) {
            CHECKS.due("insert into the empty text, number " + v, x.insert(0), v);
            x.undo();
            x.redo();
            x.undo();
        }
        CHECKS.due("length() in version 0", x.length(), 0);
        CHECKS.due("insert of the 2001st to 2040th", x.insert(0), BranchingText.FULL);
        Checks.write(x, "a");
        CHECKS.due("insert of the 2001st", x.insert(0), BranchingText.FULL);
        CHECKS.due("version() behind FULL", x.version(), 0);
        CHECKS.due("children(0)", x.children(0), 50);
    }

    private static void versionsStopAtTheLast() {
        BranchingText x = new BranchingText();
        x.type('a');
        for (int v = 1; v <= 121; v++) {
            CHECKS.due("version " + v, v % 2 == 1 ? x.insert(0) : x.delete(0, 1), v);
        }
        CHECKS.due("versions()", x.versions(), 122);
        CHECKS.due("insert of a 123rd version", x.insert(0), BranchingText.FULL);
        CHECKS.due("insert of a 123rd version, wrong position", x.insert(2), BranchingText.BAD);
        CHECKS.due("delete of a 123rd version", x.delete(0, 1), BranchingText.FULL);
        CHECKS.due("delete of a 123rd version, wrong stretch", x.delete(0, 2), BranchingText.BAD);
        CHECKS.due("delete of nothing", x.delete(0, 0), BranchingText.EMPTY);
        x.wipe();
        CHECKS.due("insert of nothing", x.insert(0), BranchingText.EMPTY);
        CHECKS.due("versions() behind the refused", x.versions(), 122);
        CHECKS.due("version()", x.version(), 121);
        CHECKS.due("children(121)", x.children(121), 0);
        CHECKS.due("goTo(0)", x.goTo(0), 121);
        CHECKS.due("goTo(121)", x.goTo(121), 121);
        CHECKS.dueText("version 121", x, "a");
    }

    private static void deleteEveryStretch() {
        String text = "ab\ncd";
        for (int from = 0; from <= 5; from++) {
            for (int count = 1; count <= 5 - from; count++) {
                BranchingText x = Checks.holding(text);
                String call = "delete(" + from + ", " + count + ")";
                CHECKS.due(call, x.delete(from, count), 2);
                CHECKS.dueText(call, x, text.substring(0, from) + text.substring(from + count));
                CHECKS.due("version() behind " + call, x.version(), 2);
                CHECKS.due("undo() behind " + call, x.undo(), 1);
                CHECKS.dueText("undo() behind " + call, x, text);
                CHECKS.due("redo() behind " + call, x.redo(), 2);
                CHECKS.dueText("redo() behind " + call, x, text.substring(0, from) + text.substring(from + count));
            }
        }
    }

    private static void deleteRefuses() {
        BranchingText x = Checks.holding("abc");
        String before = Checks.stateOf(x);
        int[][] wrong = {
            {0, 4}, {3, 1}, {4, 0}, {4, -1}, {-1, 0}, {-1, 1}, {-1, 4}, {1, -1}, {0, Integer.MAX_VALUE}, {2, Integer.MAX_VALUE},
            {Integer.MAX_VALUE, 1}, {Integer.MAX_VALUE, Integer.MAX_VALUE}, {Integer.MIN_VALUE, Integer.MIN_VALUE},
            {Integer.MIN_VALUE, 0}, {3, Integer.MIN_VALUE},
        };
        for (int[] w : wrong) {
            CHECKS.due("delete(" + w[0] + ", " + w[1] + ")", x.delete(w[0], w[1]), BranchingText.BAD);
        }
        for (int from = 0; from <= 3; from++) {
            CHECKS.due("delete(" + from + ", 0)", x.delete(from, 0), BranchingText.EMPTY);
        }
        CHECKS.dueSame("refused deletions", Checks.stateOf(x), before);
        CHECKS.due("delete(0, 0) of the empty text", new BranchingText().delete(0, 0), BranchingText.EMPTY);
        CHECKS.due("delete(0, 1) of the empty text", new BranchingText().delete(0, 1), BranchingText.BAD);
    }

    private static void undoAndRedo() {
        BranchingText x = Checks.holding("abc");
        Checks.write(x, "XY");
        x.insert(1);
        x.delete(2, 2);
        x.delete(0, 1);
        String[] texts = {"", "abc", "aXYbc", "aXc", "Xc"};
        for (int v = 3; v >= 0; v--) {
            CHECKS.due("undo() to " + v, x.undo(), v);
            CHECKS.dueText("undo() to " + v, x, texts[v]);
            CHECKS.due("version() behind undo", x.version(), v);
        }
        CHECKS.due("undo() in version 0", x.undo(), BranchingText.BAD);
        CHECKS.due("version() behind the refused undo", x.version(), 0);
        for (int v = 1; v <= 4; v++) {
            CHECKS.due("redo() to " + v, x.redo(), v);
            CHECKS.dueText("redo() to " + v, x, texts[v]);
        }
        CHECKS.due("redo() in a version without children", x.redo(), BranchingText.BAD);
        CHECKS.due("version() behind the refused redo", x.version(), 4);
        CHECKS.dueText("behind the refused redo", x, "Xc");
        CHECKS.due("versions() behind steps", x.versions(), 5);
    }

    private static void redoTakesTheChildMadeLast() {
        BranchingText x = Checks.holding("abc");
        x.delete(0, 1);
        x.undo();
        x.delete(1, 1);
        x.undo();
        x.delete(2, 1);
        x.undo();
        CHECKS.due("redo() of three children", x.redo(), 4);
        CHECKS.dueText("redo() of three children", x, "ab");
        CHECKS.due("goTo(2)", x.goTo(2), 2);
        CHECKS.due("undo()", x.undo(), 1);
        CHECKS.due("redo() takes what was made last, not what was gone to last", x.redo(), 4);
        x.goTo(2);
        x.delete(0, 1);
        x.goTo(1);
        CHECKS.due("redo() takes a child, not a grandchild", x.redo(), 4);
        x.goTo(0);
        CHECKS.due("redo() in version 0", x.redo(), 1);
    }

    /** Version 0 has 1 and 6; 1 has 2 and 4; 2 has 3; 4 has 5. */
    private static BranchingText branched() {
        BranchingText x = Checks.holding("abcd");
        Checks.write(x, "XY");
        x.insert(2);
        x.delete(0, 3);
        x.goTo(1);
        x.delete(3, 1);
        x.insert(3);
        x.goTo(0);
        x.insert(0);
        return x;
    }

    private static void goToCountsItsSteps() {
        String[] texts = {"", "abcd", "abXYcd", "Ycd", "abc", "abcXY", "XY"};
        int[][] steps = {
            {0, 1, 2, 3, 2, 3, 1}, {1, 0, 1, 2, 1, 2, 2}, {2, 1, 0, 1, 2, 3, 3}, {3, 2, 1, 0, 3, 4, 4},
            {2, 1, 2, 3, 0, 1, 3}, {3, 2, 3, 4, 1, 0, 4}, {1, 2, 3, 4, 3, 4, 0},
        };
        for (int from = 0; from < 7; from++) {
            for (int to = 0; to < 7; to++) {
                BranchingText x = branched();
                x.goTo(from);
                String call = "goTo(" + to + ") from " + from;
                CHECKS.due(call, x.goTo(to), steps[from][to]);
                CHECKS.due("version() behind " + call, x.version(), to);
                CHECKS.dueText(call, x, texts[to]);
                CHECKS.due("versions() behind " + call, x.versions(), 7);
            }
        }
    }

    private static void goToRefuses() {
        BranchingText x = branched();
        String before = Checks.stateOf(x);
        CHECKS.due("goTo(7) of 7 versions", x.goTo(7), BranchingText.BAD);
        for (int version : NO_VERSIONS) {
            CHECKS.due("goTo(" + version + ")", x.goTo(version), BranchingText.BAD);
        }
        CHECKS.dueSame("refused goTo", Checks.stateOf(x), before);
    }

    private static void theTreeIsTold() {
        BranchingText x = branched();
        int[] parents = {BranchingText.BAD, 0, 1, 2, 1, 4, 0};
        int[] children = {2, 2, 1, 0, 1, 0, 0};
        for (int there = 0; there < 7; there++) {
            x.goTo(there);
            for (int v = 0; v < 7; v++) {
                CHECKS.due("parent(" + v + ")", x.parent(v), parents[v]);
                CHECKS.due("children(" + v + ")", x.children(v), children[v]);
            }
        }
        for (int version : NO_VERSIONS) {
            CHECKS.due("parent(" + version + ")", x.parent(version), BranchingText.BAD);
            CHECKS.due("children(" + version + ")", x.children(version), BranchingText.BAD);
        }
        CHECKS.due("parent(7) of 7 versions", x.parent(7), BranchingText.BAD);
        CHECKS.due("children(7) of 7 versions", x.children(7), BranchingText.BAD);
        CHECKS.due("versions()", x.versions(), 7);
        CHECKS.due("version()", x.version(), 6);
    }
}
