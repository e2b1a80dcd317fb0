/**
 * A text that is edited by inserting and deleting, with every version of it kept in a tree so that
 * one can go back and on along any branch, with lines, and with marks that move as the text does.
 */
public final class BranchingText {
    public static final int BAD = -1;
    public static final int EMPTY = -2;
    public static final int FULL = -3;
    public static final int ABSENT = -4;

    private static final int MOST_IN_SCRATCH = 40;
    private static final int MOST_VERSIONS = 122;
    private static final int MOST_INSERTED = 2000;
    private static final int MARKS = 6;
    private static final int NOWHERE = -1;
    private static final char NEWLINE = 10;
    private static final char FIRST_PRINTABLE = 32;
    private static final char LAST_PRINTABLE = 126;
    private static final char NO_CHARACTER = 0;

    // No version has a character that no insertion brought, so what bounds those bounds every text.
    private final Row text = new Row(MOST_INSERTED);
    private final Row scratch = new Row(MOST_IN_SCRATCH);
    private final Marks marks = new Marks();
    private final Version[] made = new Version[MOST_VERSIONS];
    private final Version[] wayOn = new Version[MOST_VERSIONS];
    private int madeCount;
    private int inserted;
    private Version there;

    public BranchingText() {
        there = new Version(0, null, false, 0, new char[0]);
        made[0] = there;
        madeCount = 1;
        inserted = 0;
    }

    public boolean type(char c) {
        if (!isCharacter(c) || scratch.size == MOST_IN_SCRATCH) {
            return false;
        }
        scratch.chars[scratch.size] = c;
        scratch.size++;
        return true;
    }

    public void wipe() {
        scratch.size = 0;
    }

    public int scratch() {
        return scratch.size;
    }

    public int copy(int from, int count) {
        if (!text.hasStretch(from, count) || count > MOST_IN_SCRATCH) {
            return BAD;
        }
        System.arraycopy(text.chars, from, scratch.chars, 0, count);
        scratch.size = count;
        return count;
    }

    public int insert(int at) {
        if (!text.hasPosition(at)) {
            return BAD;
        }
        if (scratch.size == 0) {
            return EMPTY;
        }
        if (madeCount == MOST_VERSIONS || inserted + scratch.size > MOST_INSERTED) {
            return FULL;
        }
        inserted += scratch.size;
        return makeChild(true, at, scratch.pieceOf(0, scratch.size));
    }

    public int delete(int from, int count) {
        if (!text.hasStretch(from, count)) {
            return BAD;
        }
        if (count == 0) {
            return EMPTY;
        }
        if (madeCount == MOST_VERSIONS) {
            return FULL;
        }
        return makeChild(false, from, text.pieceOf(from, count));
    }

    public int undo() {
        Version parent = there.parent;
        if (parent == null) {
            return BAD;
        }
        stepBackTo(parent);
        return there.number;
    }

    public int redo() {
        Version child = there.latest;
        if (child == null) {
            return BAD;
        }
        stepOnTo(child);
        return there.number;
    }

    public int goTo(int version) {
        Version goal = numbered(version);
        if (goal == null) {
            return BAD;
        }
        int back = 0;
        int on = 0;
        // A child has a greater number than its parent, so of two different versions the one with
        // the greater number is none from which the other comes: that side moves to its parent.
        while (there != goal && back < MOST_VERSIONS && on < MOST_VERSIONS) {
            Version parent = there.number > goal.number ? there.parent : goal.parent;
            if (parent == null) {
                break;
            }
            if (there.number > goal.number) {
                stepBackTo(parent);
                back++;
            } else {
                wayOn[on] = goal;
                on++;
                goal = parent;
            }
        }
        stepAlongWay(on);
        return back + on;
    }

    public int version() {
        return there.number;
    }

    public int versions() {
        return madeCount;
    }

    public int parent(int version) {
        Version child = numbered(version);
        if (child == null || child.parent == null) {
            return BAD;
        }
        return child.parent.number;
    }

    public int children(int version) {
        Version parent = numbered(version);
        return parent == null ? BAD : parent.childCount;
    }

    public int length() {
        return text.size;
    }

    public char at(int i) {
        return i >= 0 && i < text.size ? text.chars[i] : NO_CHARACTER;
    }

    public int lines() {
        return text.newlinesBefore(text.size) + 1;
    }

    public int lineStart(int k) {
        if (k < 0) {
            return BAD;
        }
        return k == 0 ? 0 : text.behindNewline(k);
    }

    public int lineOf(int position) {
        return text.hasPosition(position) ? text.newlinesBefore(position) : BAD;
    }

    public int find(int from) {
        if (!text.hasPosition(from)) {
            return BAD;
        }
        if (scratch.size == 0) {
            return EMPTY;
        }
        for (int i = from; i <= text.size - scratch.size; i++) {
            if (text.readsAt(i, scratch)) {
                return i;
            }
        }
        return ABSENT;
    }

    public boolean mark(int m, int at, boolean right) {
        if (!isMark(m) || !text.hasPosition(at)) {
            return false;
        }
        marks.place[m] = at;
        marks.right[m] = right;
        return true;
    }

    public boolean unmark(int m) {
        if (!isMark(m) || marks.place[m] == NOWHERE) {
            return false;
        }
        marks.place[m] = NOWHERE;
        return true;
    }

    public int where(int m) {
        if (!isMark(m) || marks.place[m] == NOWHERE) {
            return BAD;
        }
        return marks.place[m];
    }

    public int nextMark(int position) {
        return text.hasPosition(position) ? marks.firstFrom(position) : BAD;
    }

    private static boolean isCharacter(char c) {
        return c == NEWLINE || (c >= FIRST_PRINTABLE && c <= LAST_PRINTABLE);
    }

    private static boolean isMark(int m) {
        return m >= 0 && m < MARKS;
    }

    /** The version with a number, or null when there is none. */
    private Version numbered(int number) {
        return number >= 0 && number < madeCount ? made[number] : null;
    }

    /** Makes a version by an edit of the one that is there; the caller has seen that one more has room. */
    private int makeChild(boolean insertion, int at, char[] piece) {
        Version child = new Version(madeCount, there, insertion, at, piece);
        made[madeCount] = child;
        madeCount++;
        there.childCount++;
        there.latest = child;
        stepOnTo(child);
        return child.number;
    }

    private void stepBackTo(Version parent) {
        if (there.insertion) {
            takeOut(there.at, there.piece.length);
        } else {
            putIn(there.at, there.piece);
        }
        there = parent;
    }

    private void stepOnTo(Version child) {
        if (child.insertion) {
            putIn(child.at, child.piece);
        } else {
            takeOut(child.at, child.piece.length);
        }
        there = child;
    }

    /** The way was noted from its end, so it is gone from its last entry to its first. */
    private void stepAlongWay(int count) {
        for (int i = count - 1; i >= 0; i--) {
            Version child = wayOn[i];
            if (child != null) {
                stepOnTo(child);
            }
        }
    }

    private void putIn(int at, char[] piece) {
        text.open(at, piece);
        marks.moveForComing(at, piece.length);
    }

    private void takeOut(int from, int count) {
        text.close(from, count);
        marks.moveForGoing(from, count);
    }

    /** A version with the edit that made it; version 0 has no parent and an edit that nobody steps over. */
    private static final class Version {
        final int number;
        final Version parent;
        final boolean insertion;
        final int at;
        /** What the edit brought or took: a deletion keeps it for the step back. */
        final char[] piece;
        int childCount;
        Version latest;

        Version(int number, Version parent, boolean insertion, int at, char[] piece) {
            this.number = number;
            this.parent = parent;
            this.insertion = insertion;
            this.at = at;
            this.piece = piece;
            this.childCount = 0;
            this.latest = null;
        }
    }

    /** A row of characters in an array that is made once. */
    private static final class Row {
        final char[] chars;
        int size;

        Row(int most) {
            chars = new char[most];
            size = 0;
        }

        boolean hasPosition(int i) {
            return i >= 0 && i <= size;
        }

        // Written without from + count, which could wrap around.
        boolean hasStretch(int from, int count) {
            return hasPosition(from) && count >= 0 && count <= size - from;
        }

        char[] pieceOf(int from, int count) {
            char[] piece = new char[count];
            System.arraycopy(chars, from, piece, 0, count);
            return piece;
        }

        void open(int at, char[] piece) {
            System.arraycopy(chars, at, chars, at + piece.length, size - at);
            System.arraycopy(piece, 0, chars, at, piece.length);
            size += piece.length;
        }

        void close(int from, int count) {
            int behind = from + count;
            System.arraycopy(chars, behind, chars, from, size - behind);
            size -= count;
        }

        int newlinesBefore(int position) {
            int count = 0;
            for (int i = 0; i < position; i++) {
                if (chars[i] == NEWLINE) {
                    count++;
                }
            }
            return count;
        }

        /** The position behind the k-th newline, counted from 1. */
        int behindNewline(int k) {
            int seen = 0;
            for (int i = 0; i < size; i++) {
                if (chars[i] == NEWLINE) {
                    seen++;
                    if (seen == k) {
                        return i + 1;
                    }
                }
            }
            return BAD;
        }

        boolean readsAt(int position, Row sought) {
            for (int i = 0; i < sought.size; i++) {
                if (chars[position + i] != sought.chars[i]) {
                    return false;
                }
            }
            return true;
        }
    }

    private static final class Marks {
        final int[] place;
        final boolean[] right;

        Marks() {
            place = new int[MARKS];
            right = new boolean[MARKS];
            for (int m = 0; m < MARKS; m++) {
                place[m] = NOWHERE;
            }
        }

        // A mark that is not set stays so in both moves, for NOWHERE is before every position.
        void moveForComing(int at, int count) {
            for (int m = 0; m < MARKS; m++) {
                if (place[m] > at || (place[m] == at && right[m])) {
                    place[m] += count;
                }
            }
        }

        void moveForGoing(int from, int count) {
            for (int m = 0; m < MARKS; m++) {
                if (place[m] >= from + count) {
                    place[m] -= count;
                } else if (place[m] > from) {
                    place[m] = from;
                }
            }
        }

        int firstFrom(int position) {
            int first = BAD;
            for (int m = 0; m < MARKS; m++) {
                if (place[m] >= position && (first == BAD || place[m] < place[first])) {
                    first = m;
                }
            }
            return first;
        }
    }
}
