/** Promises 15 to 20: length, at, lines, lineStart, lineOf, find. */
public final class TextTest {
    private static final Checks CHECKS = new Checks();

    public static void main(String[] args) {
        CHECKS.runAll(TextTest.class);
    }

    static void lengthAndAt() {
        BranchingText x = Checks.holding("ab\n~ ");
        CHECKS.due("length()", x.length(), 5);
        String text = "ab\n~ ";
        for (int i = 0; i < 5; i++) {
            CHECKS.due("at(" + i + ")", x.at(i), text.charAt(i));
        }
        for (int i : new int[] {5, 6, -1, 2000, 2001, Integer.MAX_VALUE, Integer.MIN_VALUE}) {
            CHECKS.due("at(" + i + ")", x.at(i), 0);
        }
        x.delete(1, 2);
        CHECKS.due("length() behind delete", x.length(), 3);
        CHECKS.due("at(2) behind delete", x.at(2), ' ');
        CHECKS.due("at(3) behind delete", x.at(3), 0);
        x.goTo(0);
        CHECKS.due("length() of version 0", x.length(), 0);
        CHECKS.due("at(0) of version 0", x.at(0), 0);
    }

    static void linesOfManyTexts() {
        for (String text : new String[] {"", "\n", "abc", "abc\n", "\nabc", "\n\n\n", "ab\n\ncd\ne"}) {
            dueLines(text);
        }
    }

    private static void dueLines(String text) {
        BranchingText x = Checks.holding(text);
        String of = " of \"" + text.replace('\n', '/') + "\"";
        int line = 0;
        CHECKS.due("lineStart(0)" + of, x.lineStart(0), 0);
        CHECKS.due("lineOf(0)" + of, x.lineOf(0), 0);
        for (int i = 0; i < text.length(); i++) {
            if (text.charAt(i) == '\n') {
                line++;
                CHECKS.due("lineStart(" + line + ")" + of, x.lineStart(line), i + 1);
            }
            CHECKS.due("lineOf(" + (i + 1) + ")" + of, x.lineOf(i + 1), line);
        }
        CHECKS.due("lines()" + of, x.lines(), line + 1);
        for (int k : new int[] {line + 1, line + 2, -1, Integer.MAX_VALUE, Integer.MIN_VALUE}) {
            CHECKS.due("lineStart(" + k + ")" + of, x.lineStart(k), BranchingText.BAD);
        }
        for (int p : new int[] {text.length() + 1, -1, Integer.MAX_VALUE, Integer.MIN_VALUE}) {
            CHECKS.due("lineOf(" + p + ")" + of, x.lineOf(p), BranchingText.BAD);
        }
    }

    static void linesFollowTheSteps() {
        BranchingText x = Checks.holding("a\nb\nc");
        x.delete(1, 2);
        CHECKS.due("lines() behind delete", x.lines(), 2);
        CHECKS.due("lineStart(1) behind delete", x.lineStart(1), 2);
        CHECKS.due("lineStart(2) behind delete", x.lineStart(2), BranchingText.BAD);
        CHECKS.due("lineOf(3) behind delete", x.lineOf(3), 1);
        CHECKS.due("lineOf(4) behind delete", x.lineOf(4), BranchingText.BAD);
        x.undo();
        CHECKS.due("lines() behind undo", x.lines(), 3);
        CHECKS.due("lineStart(2) behind undo", x.lineStart(2), 4);
        x.goTo(0);
        CHECKS.due("lines() of version 0", x.lines(), 1);
    }

    private static void dueFinds(String text, String sought) {
        BranchingText x = Checks.holding(text);
        Checks.write(x, sought);
        for (int from = 0; from <= text.length(); from++) {
            int found = text.indexOf(sought, from);
            CHECKS.due("find(" + from + ") of " + sought, x.find(from), found < 0 ? BranchingText.ABSENT : found);
        }
        CHECKS.dueText("find leaves the text alone", x, text);
        CHECKS.due("find leaves the scratch alone", x.scratch(), sought.length());
    }

    static void findTheLeast() {
        String text = "abcabcab\nabc aab aaab";
        String[] soughts = {"a", "abc", "bca", "ab", "aab", "aa", "b\na", "\n", " ", text, "q", "abd", "aaab", text + "b", "bb"};
        for (String sought : soughts) {
            dueFinds(text, sought);
        }
    }

    /** What a deletion leaves in memory behind the text must not be found. */
    static void findReadsTheTextThatIsThere() {
        BranchingText x = Checks.holding("abcd");
        x.delete(2, 2);
        Checks.write(x, "cd");
        CHECKS.due("find(0) of what was deleted", x.find(0), BranchingText.ABSENT);
        Checks.write(x, "bc");
        CHECKS.due("find(0) over the end", x.find(0), BranchingText.ABSENT);
        x.undo();
        CHECKS.due("find(0) behind undo", x.find(0), 1);
    }
}
