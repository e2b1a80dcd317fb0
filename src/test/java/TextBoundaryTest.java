import java.util.function.Supplier;

/** The boundary cases that promises 15 to 20 name: length, at, lines, lineStart, lineOf, find. */
public final class TextBoundaryTest {
    private static final Checks CHECKS = new Checks();
    private static final int[] FAR = {-2, 9, 41, 1999, 2000, 2001, Integer.MAX_VALUE, Integer.MIN_VALUE};

    public static void main(String[] args) {
        CHECKS.runAll(TextBoundaryTest.class);
    }

    private static BranchingText of2000Newlines() {
        return Starts.insertedOften(50, Checks.repeated('\n', 40));
    }

    /** "The number of characters of the text": none to 2000. */
    static void lengthTellsNoneTo2000() {
        CHECKS.due("length() of a new object", new BranchingText().length(), 0);
        CHECKS.due("length() of one", Checks.holding("\n").length(), 1);
        BranchingText x = Starts.fullOfCharacters();
        CHECKS.due("length()", x.length(), 2000);
        x.insert(0);
        CHECKS.due("length() behind a refused insertion", x.length(), 2000);
        x.delete(0, 2000);
        CHECKS.due("length() of the emptied text", x.length(), 0);
    }

    private static void dueNoCharacter(int i, Supplier<BranchingText> start) {
        CHECKS.dueAndUnchanged("at(" + i + ")", start, x -> x.at(i), 0);
    }

    /** "Character i of the text; 0 when there is none." */
    static void atTakesTheFirstCharacterAndNoneBefore() {
        CHECKS.due("at(0)", Starts.branched().at(0), 'a');
        dueNoCharacter(-1, Starts::branched);
    }

    /** "Character i of the text; 0 when there is none." */
    static void atTakesTheLastCharacterAndNoneBehind() {
        CHECKS.due("at(6)", Starts.branched().at(6), 'y');
        dueNoCharacter(7, Starts::branched);
        dueNoCharacter(8, Starts::branched);
        for (int i : FAR) {
            dueNoCharacter(i, Starts::branched);
        }
    }

    static void atTellsNothingOfTheEmptyText() {
        dueNoCharacter(0, BranchingText::new);
        dueNoCharacter(-1, BranchingText::new);
        dueNoCharacter(0, () -> {
            BranchingText x = Starts.branched();
            x.goTo(0);
            return x;
        });
    }

    /** Version 4 has nine characters: what it had behind the seven of version 3 is not there. */
    static void atTellsNothingOfALongerTextThatWasThere() {
        BranchingText x = Starts.branched();
        x.goTo(4);
        CHECKS.due("at(8) in version 4", x.at(8), 'y');
        x.undo();
        CHECKS.due("at(8) in version 3", x.at(8), 0);
        CHECKS.due("at(7) in version 3", x.at(7), 0);
    }

    static void atTellsThe2000thCharacter() {
        BranchingText x = Starts.fullOfCharacters();
        CHECKS.due("at(1998)", x.at(1998), 'V');
        CHECKS.due("at(1999)", x.at(1999), '\n');
        CHECKS.due("at(2000)", x.at(2000), 0);
    }

    /** Each end of the characters that a text can have. */
    static void atTellsEachEndOfTheCharacters() {
        BranchingText x = Checks.holding("\n ~");
        CHECKS.due("at(0)", x.at(0), 10);
        CHECKS.due("at(1)", x.at(1), 32);
        CHECKS.due("at(2)", x.at(2), 126);
    }

    /** "The number of lines": the empty text has one. */
    static void linesTellsOneTo2001() {
        CHECKS.due("lines() of the empty text", new BranchingText().lines(), 1);
        CHECKS.due("lines() of \"a\"", Checks.holding("a").lines(), 1);
        CHECKS.due("lines() of a newline", Checks.holding("\n").lines(), 2);
        CHECKS.due("lines() of 2000 newlines", of2000Newlines().lines(), 2001);
    }

    /** A newline that is in the text no more ends no line. */
    static void linesTellsNothingOfNewlinesThatWent() {
        BranchingText x = of2000Newlines();
        x.delete(1, 1999);
        CHECKS.due("lines()", x.lines(), 2);
        x.delete(0, 1);
        CHECKS.due("lines() of the emptied text", x.lines(), 1);
        x.undo();
        CHECKS.due("lines() behind undo", x.lines(), 2);
    }

    private static void dueNoLine(int k, Supplier<BranchingText> start) {
        CHECKS.dueAndUnchanged("lineStart(" + k + ")", start, x -> x.lineStart(k), BranchingText.BAD);
    }

    /** "BAD when there is no line k": the first and the last that there are, and their neighbours. */
    static void lineStartTakesTheFirstAndTheLastLine() {
        CHECKS.due("lineStart(0)", Starts.branched().lineStart(0), 0);
        CHECKS.due("lineStart(1)", Starts.branched().lineStart(1), 3);
        dueNoLine(-1, Starts::branched);
        dueNoLine(2, Starts::branched);
        for (int k : FAR) {
            dueNoLine(k, Starts::branched);
        }
    }

    static void lineStartOfTheEmptyTextHasOneLine() {
        CHECKS.due("lineStart(0)", new BranchingText().lineStart(0), 0);
        dueNoLine(1, BranchingText::new);
        dueNoLine(-1, BranchingText::new);
    }

    /** The last line is empty and starts behind all. */
    static void lineStartMayBeTheLastPosition() {
        BranchingText x = Checks.holding("a\n");
        CHECKS.due("lineStart(1)", x.lineStart(1), 2);
        CHECKS.due("lineStart(2)", x.lineStart(2), BranchingText.BAD);
    }

    static void lineStartReachesThe2001stLine() {
        BranchingText x = of2000Newlines();
        CHECKS.due("lineStart(1999)", x.lineStart(1999), 1999);
        CHECKS.due("lineStart(2000)", x.lineStart(2000), 2000);
        CHECKS.due("lineStart(2001)", x.lineStart(2001), BranchingText.BAD);
    }

    /** A newline behind the end of a text that became shorter starts no line. */
    static void lineStartTellsNothingOfALongerTextThatWasThere() {
        BranchingText x = Checks.holding("a\nb\n");
        x.delete(1, 3);
        CHECKS.due("lineStart(0)", x.lineStart(0), 0);
        CHECKS.due("lineStart(1)", x.lineStart(1), BranchingText.BAD);
    }

    private static void dueInNoLine(int position, Supplier<BranchingText> start) {
        CHECKS.dueAndUnchanged("lineOf(" + position + ")", start, x -> x.lineOf(position), BranchingText.BAD);
    }

    /** "BAD when there is no such position": the first and the last that there are, and their neighbours. */
    static void lineOfTakesTheFirstAndTheLastPosition() {
        CHECKS.due("lineOf(0)", Starts.branched().lineOf(0), 0);
        CHECKS.due("lineOf(7)", Starts.branched().lineOf(7), 1);
        dueInNoLine(-1, Starts::branched);
        dueInNoLine(8, Starts::branched);
        for (int position : FAR) {
            dueInNoLine(position, Starts::branched);
        }
    }

    /** Before a newline and behind it. */
    static void lineOfChangesBehindANewline() {
        CHECKS.due("lineOf(2)", Starts.branched().lineOf(2), 0);
        CHECKS.due("lineOf(3)", Starts.branched().lineOf(3), 1);
    }

    static void lineOfTheEmptyTextHasOnePosition() {
        CHECKS.due("lineOf(0)", new BranchingText().lineOf(0), 0);
        dueInNoLine(1, BranchingText::new);
        dueInNoLine(-1, BranchingText::new);
    }

    static void lineOfReachesThe2001stLine() {
        BranchingText x = of2000Newlines();
        CHECKS.due("lineOf(0)", x.lineOf(0), 0);
        CHECKS.due("lineOf(1999)", x.lineOf(1999), 1999);
        CHECKS.due("lineOf(2000)", x.lineOf(2000), 2000);
        CHECKS.due("lineOf(2001)", x.lineOf(2001), BranchingText.BAD);
    }

    private static void dueNotFound(int from, Supplier<BranchingText> start, int want) {
        CHECKS.dueAndUnchanged("find(" + from + ")", start, x -> x.find(from), want);
    }

    private static Supplier<BranchingText> seeking(String text, String scratch) {
        return () -> {
            BranchingText x = Checks.holding(text);
            Checks.write(x, scratch);
            return x;
        };
    }

    /** "The least position, not less than from". */
    static void findTakesAStretchThatBeginsAtFrom() {
        BranchingText x = seeking("abXYabXY", "ab").get();
        CHECKS.due("find(0)", x.find(0), 0);
        CHECKS.due("find(1)", x.find(1), 4);
        CHECKS.due("find(4)", x.find(4), 4);
        CHECKS.due("find(5)", x.find(5), BranchingText.ABSENT);
    }

    /** The stretch found may overlap one that begins before from. */
    static void findTakesStretchesThatOverlap() {
        BranchingText x = seeking("aaaa", "aa").get();
        CHECKS.due("find(0)", x.find(0), 0);
        CHECKS.due("find(1)", x.find(1), 1);
        CHECKS.due("find(2)", x.find(2), 2);
        CHECKS.due("find(3)", x.find(3), BranchingText.ABSENT);
    }

    /** A stretch ends with the text: one that would go beyond its end is none. */
    static void findTakesAStretchAtTheEndAndNoneOverIt() {
        CHECKS.due("find(0) of the last two", seeking("abcd", "cd").get().find(0), 2);
        CHECKS.due("find(3) of the last one", seeking("abcd", "d").get().find(3), 3);
        dueNotFound(0, seeking("abcd", "de"), BranchingText.ABSENT);
        dueNotFound(3, seeking("abcd", "dd"), BranchingText.ABSENT);
    }

    /** The whole text, and one character more than the text has. */
    static void findTakesTheWholeTextAndNotMore() {
        CHECKS.due("find(0) of all", seeking("abcd", "abcd").get().find(0), 0);
        dueNotFound(1, seeking("abcd", "abcd"), BranchingText.ABSENT);
        dueNotFound(0, seeking("abcd", "abcde"), BranchingText.ABSENT);
        dueNotFound(0, seeking("a", "aa"), BranchingText.ABSENT);
        CHECKS.due("find(0) of forty", seeking(Starts.FORTY, Starts.FORTY).get().find(0), 0);
        dueNotFound(0, seeking(Starts.FORTY.substring(1), Starts.FORTY), BranchingText.ABSENT);
    }

    /** All characters but one are the same: the first, or the last. */
    static void findComparesTheFirstAndTheLastCharacter() {
        dueNotFound(0, seeking("abcd", "xbcd"), BranchingText.ABSENT);
        dueNotFound(0, seeking("abcd", "abcx"), BranchingText.ABSENT);
        dueNotFound(0, seeking("abcd", "A"), BranchingText.ABSENT);
        CHECKS.due("find(0) behind a beginning of it", seeking("aaab", "aab").get().find(0), 1);
    }

    static void findReachesTheEndOfTheLongestText() {
        BranchingText x = Starts.fullOfCharacters();
        CHECKS.due("find(1921)", x.find(1921), 1960);
        CHECKS.due("find(1960)", x.find(1960), 1960);
        CHECKS.due("find(1961)", x.find(1961), BranchingText.ABSENT);
        x.copy(1999, 1);
        CHECKS.due("find(1999)", x.find(1999), 1999);
        CHECKS.due("find(2000)", x.find(2000), BranchingText.ABSENT);
    }

    /** "BAD when there is no position from". */
    static void findTakesTheLastPositionAndNoMore() {
        dueNotFound(7, Starts::branched, BranchingText.ABSENT);
        dueNotFound(8, Starts::branched, BranchingText.BAD);
        dueNotFound(-1, Starts::branched, BranchingText.BAD);
        for (int from : FAR) {
            dueNotFound(from, Starts::branched, BranchingText.BAD);
        }
    }

    /** "EMPTY when the scratch is empty": one character is sought. */
    static void findRefusesAnEmptyScratch() {
        dueNotFound(0, Starts::branchedWithEmptyScratch, BranchingText.EMPTY);
        dueNotFound(7, Starts::branchedWithEmptyScratch, BranchingText.EMPTY);
        BranchingText x = Starts.branchedWithEmptyScratch();
        x.type('\n');
        CHECKS.due("find(0) of one", x.find(0), 2);
    }

    /** "BAD .. EMPTY": both hold. */
    static void findAnswersBadBeforeEmpty() {
        dueNotFound(-1, Starts::branchedWithEmptyScratch, BranchingText.BAD);
        dueNotFound(8, Starts::branchedWithEmptyScratch, BranchingText.BAD);
        dueNotFound(1, BranchingText::new, BranchingText.BAD);
    }

    /** "BAD .. ABSENT": both hold. */
    static void findAnswersBadBeforeAbsent() {
        dueNotFound(-1, seeking("abcd", "q"), BranchingText.BAD);
        dueNotFound(5, seeking("abcd", "q"), BranchingText.BAD);
    }

    /** "EMPTY .. ABSENT": where nothing could be found, the empty scratch is told first. */
    static void findAnswersEmptyBeforeAbsent() {
        dueNotFound(0, BranchingText::new, BranchingText.EMPTY);
        BranchingText x = new BranchingText();
        x.type('a');
        CHECKS.due("find(0) in the empty text", x.find(0), BranchingText.ABSENT);
    }
}
