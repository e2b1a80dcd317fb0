/** Promises 21 to 24: mark, unmark, where, nextMark; and how marks move. */
public final class MarksTest {
    private static final Checks CHECKS = new Checks();

    public static void main(String[] args) {
        CHECKS.runAll(MarksTest.class);
    }

    static void markSets() {
        BranchingText x = Checks.holding("abc");
        for (int m = 0; m < 6; m++) {
            CHECKS.due("mark(" + m + ")", x.mark(m, m % 4, m % 2 == 0), true);
        }
        for (int m = 0; m < 6; m++) {
            CHECKS.due("where(" + m + ")", x.where(m), m % 4);
        }
        CHECKS.due("mark(2) set anew", x.mark(2, 0, false), true);
        CHECKS.due("where(2) set anew", x.where(2), 0);
        x.type('z');
        x.insert(0);
        CHECKS.due("where(2), which leans to the right no more", x.where(2), 0);
        CHECKS.due("mark(2) set anew", x.mark(2, 0, true), true);
        x.insert(0);
        CHECKS.due("where(2), which leans to the right again", x.where(2), 1);
        CHECKS.due("mark in the empty text", new BranchingText().mark(0, 0, true), true);
    }

    static void unmarkTakesAway() {
        BranchingText x = Checks.holding("abc");
        x.mark(0, 0, true);
        x.mark(5, 0, false);
        CHECKS.due("unmark(0)", x.unmark(0), true);
        CHECKS.due("where(0) behind unmark", x.where(0), BranchingText.BAD);
        CHECKS.due("unmark(0) again", x.unmark(0), false);
        CHECKS.due("unmark(1), never set", x.unmark(1), false);
        for (int m : new int[] {-1, 6, Integer.MAX_VALUE, Integer.MIN_VALUE}) {
            CHECKS.due("unmark(" + m + ")", x.unmark(m), false);
        }
        CHECKS.due("where(5) stays", x.where(5), 0);
        CHECKS.due("nextMark(0) behind unmark", x.nextMark(0), 5);
        CHECKS.due("unmark(5)", x.unmark(5), true);
        CHECKS.due("nextMark(0) behind both", x.nextMark(0), BranchingText.BAD);
        CHECKS.due("mark(0) again", x.mark(0, 3, false), true);
        CHECKS.due("where(0) again", x.where(0), 3);
    }

    static void nextMarkOfSeveral() {
        BranchingText x = Checks.holding("abcdefgh");
        x.mark(0, 6, false);
        x.mark(1, 3, true);
        x.mark(2, 6, true);
        x.mark(4, 3, false);
        x.mark(5, 1, false);
        int[] due = {5, 5, 1, 1, 0, 0, 0, BranchingText.BAD, BranchingText.BAD};
        for (int p = 0; p < due.length; p++) {
            CHECKS.due("nextMark(" + p + ")", x.nextMark(p), due[p]);
        }
        x.mark(3, 8, false);
        CHECKS.due("nextMark(8), behind all", x.nextMark(8), 3);
        CHECKS.due("nextMark(7)", x.nextMark(7), 3);
    }

    private static int afterComing(int place, boolean right, int at, int count) {
        return place > at || (place == at && right) ? place + count : place;
    }

    private static int afterGoing(int place, int from, int count) {
        return place >= from + count ? place - count : Math.min(place, from);
    }

    /** Characters come by insert and redo, and by undo of a deletion. */
    static void comingMovesMarks() {
        for (int at = 0; at <= 5; at++) {
            for (int place = 0; place <= 5; place++) {
                for (int lean = 0; lean < 2; lean++) {
                    boolean right = lean == 1;
                    String where = "mark at " + place + (right ? " to the right" : "") + ", three come in at " + at;
                    BranchingText x = Checks.holding("abcde");
                    Checks.write(x, "xyz");
                    x.mark(3, place, right);
                    x.insert(at);
                    CHECKS.due(where + " by insert", x.where(3), afterComing(place, right, at, 3));
                    x.undo();
                    x.mark(3, place, right);
                    x.redo();
                    CHECKS.due(where + " by redo", x.where(3), afterComing(place, right, at, 3));
                    x.delete(at, 3);
                    x.mark(3, place, right);
                    x.undo();
                    CHECKS.due(where + " by undo of a deletion", x.where(3), afterComing(place, right, at, 3));
                }
            }
        }
    }

    /** Characters go by delete and redo, and by undo of an insertion. */
    static void goingMovesMarks() {
        for (int from = 0; from <= 5; from++) {
            for (int place = 0; place <= 8; place++) {
                for (int lean = 0; lean < 2; lean++) {
                    boolean right = lean == 1;
                    String where = "mark at " + place + (right ? " to the right" : "") + ", three go from " + from;
                    BranchingText x = Checks.holding("abcde");
                    Checks.write(x, "xyz");
                    x.insert(from);
                    x.mark(1, place, right);
                    x.delete(from, 3);
                    CHECKS.due(where + " by delete", x.where(1), afterGoing(place, from, 3));
                    x.undo();
                    x.mark(1, place, right);
                    x.redo();
                    CHECKS.due(where + " by redo", x.where(1), afterGoing(place, from, 3));
                    x.undo();
                    x.mark(1, place, right);
                    x.undo();
                    CHECKS.due(where + " by undo of an insertion", x.where(1), afterGoing(place, from, 3));
                }
            }
        }
    }

    /** Going to a sibling passes the parent, where the mark is squeezed: no shorter way would do. */
    static void goToMovesMarksByEveryStep() {
        BranchingText x = Checks.holding("abcdef");
        x.delete(1, 4);
        x.goTo(1);
        Checks.write(x, "XYZ");
        x.insert(3);
        x.mark(0, 5, false);
        x.mark(1, 5, true);
        x.mark(2, 9, false);
        CHECKS.due("goTo(2)", x.goTo(2), 2);
        CHECKS.due("where(0) in version 2", x.where(0), 1);
        CHECKS.due("where(1) in version 2", x.where(1), 1);
        CHECKS.due("where(2) in version 2", x.where(2), 2);
        CHECKS.due("goTo(3)", x.goTo(3), 2);
        CHECKS.due("where(0) in version 3", x.where(0), 1);
        CHECKS.due("where(1) in version 3", x.where(1), 8);
        CHECKS.due("where(2) in version 3", x.where(2), 9);
        CHECKS.due("goTo(3) again", x.goTo(3), 0);
        CHECKS.due("where(1) behind no step", x.where(1), 8);
        CHECKS.due("goTo(0)", x.goTo(0), 2);
        for (int m = 0; m < 3; m++) {
            CHECKS.due("where(" + m + ") in version 0", x.where(m), 0);
        }
        CHECKS.due("redo()", x.redo(), 1);
        CHECKS.due("where(0) in version 1", x.where(0), 0);
        CHECKS.due("where(1) in version 1", x.where(1), 6);
    }

    static void marksThatAreNotSetStaySo() {
        BranchingText x = Checks.holding("abc");
        x.mark(0, 0, true);
        x.unmark(0);
        x.type('z');
        x.insert(0);
        x.delete(0, 2);
        x.undo();
        x.goTo(0);
        x.redo();
        for (int m = 0; m < 6; m++) {
            CHECKS.due("where(" + m + ") of a mark that is not set", x.where(m), BranchingText.BAD);
        }
        CHECKS.due("nextMark(0)", x.nextMark(0), BranchingText.BAD);
    }
}
