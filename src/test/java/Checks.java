/** Counts the answers that are not as due, and makes the objects that the tests start from. */
final class Checks {
    private int checked = 0;
    private int wrong = 0;

    void due(String what, long got, long want) {
        checked++;
        if (got != want) {
            wrong++;
            System.out.println(what + ": answered " + got + ", due is " + want);
        }
    }

    void due(String what, boolean got, boolean want) {
        due(what, got ? 1 : 0, want ? 1 : 0);
    }

    void dueText(String what, BranchingText x, String want) {
        checked++;
        String got = textOf(x);
        if (!got.equals(want)) {
            wrong++;
            System.out.println(what + ": the text is \"" + got + "\", due is \"" + want + "\"");
        }
    }

    /** Reads the scratch by inserting it at the front of the text, and takes the edit back again. */
    void dueScratch(String what, BranchingText x, String want) {
        due(what + ": scratch()", x.scratch(), want.length());
        if (want.isEmpty()) {
            return;
        }
        String before = textOf(x);
        x.insert(0);
        dueText(what + ": the scratch put in", x, want + before);
        x.undo();
    }

    /** Every answer that tells the state and is cheap to ask; a refused call must leave all of it alone. */
    static String stateOf(BranchingText x) {
        StringBuilder state = new StringBuilder(textOf(x));
        state.append('|').append(x.version()).append('|').append(x.versions()).append('|').append(x.scratch());
        for (int m = 0; m < 6; m++) {
            state.append('|').append(x.where(m));
        }
        return state.toString();
    }

    void dueSame(String what, String got, String want) {
        checked++;
        if (!got.equals(want)) {
            wrong++;
            System.out.println(what + ": the state was \"" + want + "\" and is \"" + got + "\"");
        }
    }

    void end(String name) {
        System.out.println(name + ": " + checked + " checks, " + wrong + " wrong");
        if (wrong != 0 || checked == 0) {
            System.exit(1);
        }
    }

    static String textOf(BranchingText x) {
        StringBuilder text = new StringBuilder();
        int length = x.length();
        for (int i = 0; i < length; i++) {
            text.append(x.at(i));
        }
        return text.toString();
    }

    static void write(BranchingText x, String scratch) {
        x.wipe();
        for (int i = 0; i < scratch.length(); i++) {
            x.type(scratch.charAt(i));
        }
    }

    static BranchingText holding(String text) {
        BranchingText x = new BranchingText();
        write(x, text);
        x.insert(0);
        x.wipe();
        return x;
    }

    static String repeated(char c, int count) {
        return String.valueOf(c).repeat(count);
    }
}
