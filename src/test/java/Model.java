import java.util.ArrayList;
import java.util.List;

/**
 * The document's words, written as plainly as can be: every version keeps its whole text, and a way in
 * the tree is a list of numbers. It shares nothing with the program, so that the two check one another.
 */
final class Model {
    private static final class Edit {
        final int parent;
        final boolean insertion;
        final int at;
        final int count;
        final String text;

        Edit(int parent, boolean insertion, int at, int count, String text) {
            this.parent = parent;
            this.insertion = insertion;
            this.at = at;
            this.count = count;
            this.text = text;
        }
    }

    private final List<Edit> versions = new ArrayList<>();
    private final Integer[] marks = new Integer[6];
    private final boolean[] leansRight = new boolean[6];
    private String scratch = "";
    private int there = 0;

    Model() {
        versions.add(new Edit(-1, true, 0, 0, ""));
    }

    String text() {
        return versions.get(there).text;
    }

    boolean type(char c) {
        boolean allowed = c == 10 || (32 <= c && c <= 126);
        if (!allowed || scratch.length() == 40) {
            return false;
        }
        scratch += c;
        return true;
    }

    void wipe() {
        scratch = "";
    }

    int scratch() {
        return scratch.length();
    }

    private boolean noPosition(long i) {
        return i < 0 || i > text().length();
    }

    private boolean noStretch(long from, long count) {
        return noPosition(from) || count < 0 || noPosition(from + count);
    }

    int copy(int from, int count) {
        if (noStretch(from, count) || count > 40) {
            return -1;
        }
        scratch = text().substring(from, from + count);
        return count;
    }

    private int insertedInAll() {
        int sum = 0;
        for (Edit edit : versions) {
            sum += edit.insertion ? edit.count : 0;
        }
        return sum;
    }

    int insert(int at) {
        if (noPosition(at)) {
            return -1;
        }
        if (scratch.isEmpty()) {
            return -2;
        }
        if (versions.size() == 122 || insertedInAll() + scratch.length() > 2000) {
            return -3;
        }
        String text = text().substring(0, at) + scratch + text().substring(at);
        versions.add(new Edit(there, true, at, scratch.length(), text));
        return on(versions.size() - 1);
    }

    int delete(int from, int count) {
        if (noStretch(from, count)) {
            return -1;
        }
        if (count == 0) {
            return -2;
        }
        if (versions.size() == 122) {
            return -3;
        }
        String text = text().substring(0, from) + text().substring(from + count);
        versions.add(new Edit(there, false, from, count, text));
        return on(versions.size() - 1);
    }

    private int on(int child) {
        Edit edit = versions.get(child);
        moveMarks(edit.insertion, edit.at, edit.count);
        there = child;
        return child;
    }

    private int back() {
        Edit edit = versions.get(there);
        moveMarks(!edit.insertion, edit.at, edit.count);
        there = edit.parent;
        return there;
    }

    private void moveMarks(boolean come, int p, int n) {
        for (int m = 0; m < 6; m++) {
            if (marks[m] == null) {
                continue;
            }
            int place = marks[m];
            if (come) {
                boolean moves = place > p || (place == p && leansRight[m]);
                marks[m] = moves ? place + n : place;
            } else if (place >= p + n) {
                marks[m] = place - n;
            } else if (place > p) {
                marks[m] = p;
            }
        }
    }

    int undo() {
        return there == 0 ? -1 : back();
    }

    int redo() {
        int latest = -1;
        for (int v = 1; v < versions.size(); v++) {
            latest = versions.get(v).parent == there ? v : latest;
        }
        return latest == -1 ? -1 : on(latest);
    }

    private boolean noVersion(int version) {
        return version < 0 || version >= versions.size();
    }

    int goTo(int version) {
        if (noVersion(version)) {
            return -1;
        }
        List<Integer> line = new ArrayList<>();
        for (int v = version; v != -1; v = versions.get(v).parent) {
            line.add(0, v);
        }
        int steps = 0;
        while (!line.contains(there)) {
            back();
            steps++;
        }
        for (int v : line.subList(line.indexOf(there) + 1, line.size())) {
            on(v);
            steps++;
        }
        return steps;
    }

    int version() {
        return there;
    }

    int versions() {
        return versions.size();
    }

    int parent(int version) {
        return noVersion(version) ? -1 : versions.get(version).parent;
    }

    int children(int version) {
        int count = 0;
        for (Edit edit : versions) {
            count += edit.parent == version ? 1 : 0;
        }
        return noVersion(version) ? -1 : count;
    }

    int length() {
        return text().length();
    }

    char at(int i) {
        return i < 0 || i >= text().length() ? 0 : text().charAt(i);
    }

    private List<Integer> lineStarts() {
        List<Integer> starts = new ArrayList<>(List.of(0));
        for (int i = text().indexOf('\n'); i >= 0; i = text().indexOf('\n', i + 1)) {
            starts.add(i + 1);
        }
        return starts;
    }

    int lines() {
        return lineStarts().size();
    }

    int lineStart(int k) {
        return k < 0 || k >= lines() ? -1 : lineStarts().get(k);
    }

    int lineOf(int position) {
        if (noPosition(position)) {
            return -1;
        }
        List<Integer> starts = lineStarts();
        int line = starts.size() - 1;
        while (starts.get(line) > position) {
            line--;
        }
        return line;
    }

    int find(int from) {
        if (noPosition(from)) {
            return -1;
        }
        if (scratch.isEmpty()) {
            return -2;
        }
        int found = text().indexOf(scratch, from);
        return found < 0 ? -4 : found;
    }

    private static boolean noMark(int m) {
        return m < 0 || m > 5;
    }

    boolean mark(int m, int at, boolean right) {
        if (noMark(m) || noPosition(at)) {
            return false;
        }
        marks[m] = at;
        leansRight[m] = right;
        return true;
    }

    boolean unmark(int m) {
        if (noMark(m) || marks[m] == null) {
            return false;
        }
        marks[m] = null;
        return true;
    }

    int where(int m) {
        return noMark(m) || marks[m] == null ? -1 : marks[m];
    }

    int nextMark(int position) {
        for (int p = position; !noPosition(p); p++) {
            for (int m = 0; m < 6; m++) {
                if (marks[m] != null && marks[m] == p) {
                    return m;
                }
            }
        }
        return -1;
    }
}
