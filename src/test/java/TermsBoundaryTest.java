import java.util.List;
import java.util.function.Consumer;
import java.util.function.Supplier;
import java.util.function.ToIntFunction;

/** The boundary cases that the sections "What it is" and "Terms" name. */
public final class TermsBoundaryTest {
    private static final Checks CHECKS = new Checks();

    public static void main(String[] args) {
        CHECKS.runAll(TermsBoundaryTest.class);
    }

    /** Version 1, "a\n", is there and has a child; mark 3 is at 1. */
    private static BranchingText after511Calls() {
        BranchingText x = new BranchingText();
        x.type('a');
        x.type('\n');
        x.insert(0);
        x.delete(0, 1);
        x.undo();
        x.mark(3, 1, true);
        for (int call = 7; call <= 511; call++) {
            x.length();
        }
        return x;
    }

    /** "An object is used for at most 512 calls after it has been made". */
    static void each512thCallIsAnswered() {
        CHECKS.due("type", after511Calls().type('b'), true);
        CHECKS.due("scratch", after511Calls().scratch(), 2);
        CHECKS.due("copy", after511Calls().copy(0, 1), 1);
        CHECKS.due("insert", after511Calls().insert(2), 3);
        CHECKS.due("delete", after511Calls().delete(0, 2), 3);
        CHECKS.due("undo", after511Calls().undo(), 0);
        CHECKS.due("redo", after511Calls().redo(), 2);
        CHECKS.due("goTo", after511Calls().goTo(2), 1);
        CHECKS.due("version", after511Calls().version(), 1);
        CHECKS.due("versions", after511Calls().versions(), 3);
        CHECKS.due("parent", after511Calls().parent(2), 1);
        CHECKS.due("children", after511Calls().children(1), 1);
        CHECKS.due("length", after511Calls().length(), 2);
        CHECKS.due("at", after511Calls().at(1), 10);
        CHECKS.due("lines", after511Calls().lines(), 2);
        CHECKS.due("lineStart", after511Calls().lineStart(1), 2);
        CHECKS.due("lineOf", after511Calls().lineOf(2), 1);
        CHECKS.due("find", after511Calls().find(0), 0);
        CHECKS.due("mark", after511Calls().mark(0, 2, true), true);
        CHECKS.due("unmark", after511Calls().unmark(3), true);
        CHECKS.due("where", after511Calls().where(3), 1);
        CHECKS.due("nextMark", after511Calls().nextMark(1), 3);
    }

    /** wipe answers nothing, so the 512th call tells of the 511th. */
    static void the511thCallMayBeWipe() {
        BranchingText x = new BranchingText();
        for (int call = 1; call <= 510; call++) {
            x.type('a');
        }
        x.wipe();
        CHECKS.due("scratch, call 512", x.scratch(), 0);
    }

    /** Three calls make version 1, "a", with mark 5 at 1; all the others are the same one. */
    private static void dueUpToCall512(String what, ToIntFunction<BranchingText> call, int want) {
        BranchingText x = new BranchingText();
        x.type('a');
        x.insert(0);
        x.mark(5, 1, true);
        for (int i = 4; i <= 512; i++) {
            CHECKS.due(what + ", call " + i, call.applyAsInt(x), want);
        }
    }

    /** "used for at most 512 calls": whichever they are; of those that change nothing, each over and over. */
    static void aCallMayBeMadeOverAndOver() {
        dueUpToCall512("type of no character", x -> x.type((char) 9) ? 1 : 0, 0);
        dueUpToCall512("scratch", BranchingText::scratch, 1);
        dueUpToCall512("copy", x -> x.copy(0, 1), 1);
        dueUpToCall512("insert", x -> x.insert(2), BranchingText.BAD);
        dueUpToCall512("delete", x -> x.delete(1, 0), BranchingText.EMPTY);
        dueUpToCall512("redo", BranchingText::redo, BranchingText.BAD);
        dueUpToCall512("goTo", x -> x.goTo(1), 0);
        dueUpToCall512("version", BranchingText::version, 1);
        dueUpToCall512("versions", BranchingText::versions, 2);
        dueUpToCall512("parent", x -> x.parent(1), 0);
        dueUpToCall512("children", x -> x.children(0), 1);
        dueUpToCall512("length", BranchingText::length, 1);
        dueUpToCall512("at", x -> x.at(0), 'a');
        dueUpToCall512("lines", BranchingText::lines, 1);
        dueUpToCall512("lineStart", x -> x.lineStart(1), BranchingText.BAD);
        dueUpToCall512("lineOf", x -> x.lineOf(1), 0);
        dueUpToCall512("find", x -> x.find(0), 0);
        dueUpToCall512("mark", x -> x.mark(5, 1, true) ? 1 : 0, 1);
        dueUpToCall512("unmark", x -> x.unmark(4) ? 1 : 0, 0);
        dueUpToCall512("where", x -> x.where(5), 1);
        dueUpToCall512("nextMark", x -> x.nextMark(0), 5);
    }

    /** The dearest calls: from the first version to the last and back, as often as an object has calls. */
    static void the512thCallMayGoOverAllVersions() {
        BranchingText x = new BranchingText();
        x.type('a');
        for (int v = 1; v <= 121; v++) {
            x.insert(v - 1);
        }
        for (int call = 123; call <= 512; call++) {
            CHECKS.due("goTo, call " + call, x.goTo(call % 2 == 0 ? 121 : 0), 121);
        }
    }

    /** "POSITION i is before character i (0 the first), the last one behind all." */
    static void theEmptyTextHasOnePosition() {
        BranchingText x = new BranchingText();
        x.type('a');
        CHECKS.due("lineOf(0)", x.lineOf(0), 0);
        CHECKS.due("find(0)", x.find(0), BranchingText.ABSENT);
        CHECKS.due("mark(0, 0, true)", x.mark(0, 0, true), true);
        CHECKS.due("nextMark(0)", x.nextMark(0), 0);
        for (int p : new int[] {-1, 1}) {
            CHECKS.due("lineOf(" + p + ")", x.lineOf(p), BranchingText.BAD);
            CHECKS.due("find(" + p + ")", x.find(p), BranchingText.BAD);
            CHECKS.due("mark(1, " + p + ", true)", x.mark(1, p, true), false);
            CHECKS.due("nextMark(" + p + ")", x.nextMark(p), BranchingText.BAD);
            CHECKS.due("insert(" + p + ")", x.insert(p), BranchingText.BAD);
        }
        CHECKS.due("insert(0)", x.insert(0), 1);
    }

    /** "POSITION i is before character i (0 the first), the last one behind all." */
    static void theLongestTextHas2001Positions() {
        BranchingText x = Starts.fullOfCharacters();
        CHECKS.due("lineOf(2000)", x.lineOf(2000), 50);
        CHECKS.due("lineOf(2001)", x.lineOf(2001), BranchingText.BAD);
        CHECKS.due("find(2000)", x.find(2000), BranchingText.ABSENT);
        CHECKS.due("find(2001)", x.find(2001), BranchingText.BAD);
        CHECKS.due("nextMark(2000)", x.nextMark(2000), 3);
        CHECKS.due("nextMark(2001)", x.nextMark(2001), BranchingText.BAD);
        CHECKS.due("mark(0, 2001, true)", x.mark(0, 2001, true), false);
        CHECKS.due("mark(0, 2000, true)", x.mark(0, 2000, true), true);
    }

    /** "A STRETCH from i with a count n is the n characters from position i on, when there are so many." */
    static void aStretchEndsWithTheText() {
        String text = "abcde";
        for (int from = 0; from <= 5; from++) {
            BranchingText x = Checks.holding(text);
            int rest = 5 - from;
            CHECKS.due("copy(" + from + ", " + rest + ")", x.copy(from, rest), rest);
            CHECKS.dueScratch("copy(" + from + ", " + rest + ")", x, text.substring(from));
            CHECKS.due("copy(" + from + ", " + (rest + 1) + ")", x.copy(from, rest + 1), BranchingText.BAD);
            CHECKS.due("delete(" + from + ", " + (rest + 1) + ")", x.delete(from, rest + 1), BranchingText.BAD);
            CHECKS.dueScratch("the refused", x, text.substring(from));
            CHECKS.dueText("the refused", x, text);
        }
    }

    /** "when there are so many": where the end of the stretch, as an int, wraps around to a position. */
    static void aStretchDoesNotWrapAround() {
        int[][] wrapping = {
            {Integer.MAX_VALUE, Integer.MAX_VALUE}, {Integer.MAX_VALUE, 1}, {1, Integer.MAX_VALUE}, {7, Integer.MAX_VALUE},
            {Integer.MIN_VALUE, Integer.MIN_VALUE}, {Integer.MAX_VALUE, Integer.MIN_VALUE}, {Integer.MIN_VALUE, Integer.MAX_VALUE},
            {5, Integer.MIN_VALUE}, {Integer.MIN_VALUE, 5}, {-1, Integer.MAX_VALUE}, {-3, 5}, {5, -3},
        };
        for (int[] w : wrapping) {
            CHECKS.dueAndUnchanged("copy(" + w[0] + ", " + w[1] + ")", Starts::branched, x -> x.copy(w[0], w[1]), BranchingText.BAD);
            CHECKS.dueAndUnchanged("delete(" + w[0] + ", " + w[1] + ")", Starts::branched, x -> x.delete(w[0], w[1]), BranchingText.BAD);
        }
    }

    /** "a line ends behind a newline or with the text. So there is one line more than there are newlines". */
    static void aNewlineAtTheEndOpensAnEmptyLine() {
        BranchingText x = Checks.holding("ab");
        CHECKS.due("lines() of \"ab\"", x.lines(), 1);
        Checks.write(x, "\n");
        x.insert(2);
        CHECKS.due("lines() of \"ab/\"", x.lines(), 2);
        CHECKS.due("lineStart(1)", x.lineStart(1), 3);
        CHECKS.due("lineStart(2)", x.lineStart(2), BranchingText.BAD);
    }

    /** "line 0 starts at position 0, line k behind the k-th newline." */
    static void linesOfNewlinesAloneAreEmpty() {
        BranchingText x = Checks.holding("\n\n\n");
        for (int k = 0; k <= 3; k++) {
            CHECKS.due("lineStart(" + k + ")", x.lineStart(k), k);
            CHECKS.due("lineOf(" + k + ")", x.lineOf(k), k);
        }
        CHECKS.due("lines()", x.lines(), 4);
    }

    /** "A position is in the last line that starts at it or before it." */
    static void thePositionBehindANewlineIsInTheNextLine() {
        BranchingText x = Checks.holding("ab\n\ncd");
        int[] due = {0, 0, 0, 1, 2, 2, 2};
        for (int p = 0; p <= 6; p++) {
            CHECKS.due("lineOf(" + p + ")", x.lineOf(p), due[p]);
        }
    }

    /** "VERSIONS have numbers 0, 1, .., at most 121". */
    static void theLastVersionHasTheNumber121() {
        BranchingText x = Starts.rowOfVersions(120);
        CHECKS.due("version 121", x.insert(0), 121);
        CHECKS.due("version()", x.version(), 121);
        CHECKS.due("a version more", x.delete(0, 1), BranchingText.FULL);
        CHECKS.due("version()", x.version(), 121);
    }

    /** "version 0 is the empty text." */
    static void versionZeroStaysTheEmptyText() {
        BranchingText x = Starts.branched();
        CHECKS.due("goTo(0)", x.goTo(0), 2);
        CHECKS.due("length()", x.length(), 0);
        CHECKS.due("insert(0) in version 0", x.insert(0), 5);
        CHECKS.due("undo()", x.undo(), 0);
        CHECKS.due("length()", x.length(), 0);
    }

    /** "Versions stay, whatever is done later." */
    static void versionsStayWhateverIsDone() {
        BranchingText x = Starts.branched();
        x.delete(0, 7);
        x.goTo(2);
        Checks.write(x, "later");
        x.insert(3);
        x.wipe();
        x.goTo(0);
        String[] texts = {"", "ab\ncd", "acd", "ab\ncdxy", "xyab\ncdxy", "", "acdlater"};
        for (int v = 0; v < texts.length; v++) {
            x.goTo(v);
            CHECKS.dueText("version " + v, x, texts[v]);
        }
        CHECKS.due("versions()", x.versions(), 7);
    }

    /** "Of the children of a version, the LATEST is the one that was made last." */
    static void theLatestOfAllChildrenIsTheLastVersion() {
        BranchingText x = new BranchingText();
        x.type('a');
        for (int v = 1; v <= 121; v++) {
            x.insert(0);
            x.undo();
        }
        CHECKS.due("children(0)", x.children(0), 121);
        CHECKS.due("goTo(1)", x.goTo(1), 1);
        x.undo();
        CHECKS.due("redo()", x.redo(), 121);
    }

    /** "MARKS 0 .. 5 are set or not". */
    static void marksHaveNumbersUpToFive() {
        BranchingText x = Checks.holding("ab");
        for (int m : new int[] {0, 5}) {
            CHECKS.due("unmark(" + m + ")", x.unmark(m), false);
            CHECKS.due("mark(" + m + ", 1, true)", x.mark(m, 1, true), true);
            CHECKS.due("where(" + m + ")", x.where(m), 1);
            CHECKS.due("unmark(" + m + ")", x.unmark(m), true);
        }
        for (int m : new int[] {-1, 6}) {
            CHECKS.due("mark(" + m + ", 1, true)", x.mark(m, 1, true), false);
            CHECKS.due("where(" + m + ")", x.where(m), BranchingText.BAD);
            CHECKS.due("unmark(" + m + ")", x.unmark(m), false);
        }
    }

    /** The ways in which a change of the text comes about: an object that is about to make it, and the call. */
    private record Way(String name, Supplier<BranchingText> start, Consumer<BranchingText> call) {
        /** Sets the marks, of which those with an odd number lean to the right, and makes the change. */
        void due(int[] places, int... after) {
            BranchingText x = start.get();
            for (int m = 0; m < places.length; m++) {
                x.mark(m, places[m], m % 2 == 1);
            }
            call.accept(x);
            CHECKS.duePlaces(name, x, after);
        }
    }

    private static BranchingText aboutToInsert(String text, String piece) {
        BranchingText x = Checks.holding(text);
        Checks.write(x, piece);
        return x;
    }

    private static BranchingText inserted(String text, int p, String piece) {
        BranchingText x = aboutToInsert(text, piece);
        x.insert(p);
        return x;
    }

    private static BranchingText insertedAndBack(String text, int p, String piece) {
        BranchingText x = inserted(text, p, piece);
        x.undo();
        return x;
    }

    private static BranchingText deletedAgain(String text, int p, String piece) {
        BranchingText x = inserted(text, p, piece);
        x.delete(p, piece.length());
        return x;
    }

    private static BranchingText deletedAgainAndBack(String text, int p, String piece) {
        BranchingText x = deletedAgain(text, p, piece);
        x.undo();
        return x;
    }

    private static List<Way> comings(String text, int p, String piece) {
        return List.of(
            new Way("insert", () -> aboutToInsert(text, piece), x -> x.insert(p)),
            new Way("redo of an insertion", () -> insertedAndBack(text, p, piece), BranchingText::redo),
            new Way("goTo over an insertion", () -> insertedAndBack(text, p, piece), x -> x.goTo(2)),
            new Way("undo of a deletion", () -> deletedAgain(text, p, piece), BranchingText::undo),
            new Way("goTo back over a deletion", () -> deletedAgain(text, p, piece), x -> x.goTo(2)));
    }

    private static List<Way> goings(String text, int p, String piece) {
        return List.of(
            new Way("delete", () -> inserted(text, p, piece), x -> x.delete(p, piece.length())),
            new Way("redo of a deletion", () -> deletedAgainAndBack(text, p, piece), BranchingText::redo),
            new Way("goTo over a deletion", () -> deletedAgainAndBack(text, p, piece), x -> x.goTo(3)),
            new Way("undo of an insertion", () -> inserted(text, p, piece), BranchingText::undo),
            new Way("goTo back over an insertion", () -> inserted(text, p, piece), x -> x.goTo(1)));
    }

    /** "when n characters come in at position p, a mark beyond p moves by n". */
    static void aMarkJustBeyondWhatComesMoves() {
        for (Way way : comings("abcdef", 3, "XY")) {
            way.due(new int[] {4, 4, 5, 5, 6, 6}, 6, 6, 7, 7, 8, 8);
        }
    }

    /** A mark before p is not named, so it stays, and so does one at p that does not lean to the right. */
    static void aMarkJustBeforeWhatComesStays() {
        for (Way way : comings("abcdef", 3, "XY")) {
            way.due(new int[] {2, 2, 1, 1, 0, 0}, 2, 2, 1, 1, 0, 0);
        }
    }

    /** "and so does one at p that leans to the right." */
    static void aMarkWhereCharactersComeMovesIfItLeansToTheRight() {
        for (Way way : comings("abcdef", 3, "XY")) {
            way.due(new int[] {3, 3}, 3, 5);
        }
    }

    static void marksMoveWhenCharactersComeAtTheFront() {
        for (Way way : comings("abcdef", 0, "XY")) {
            way.due(new int[] {0, 0, 1, 1, 6, 6}, 0, 2, 3, 3, 8, 8);
        }
    }

    static void marksMoveWhenCharactersComeBehindAll() {
        for (Way way : comings("abcdef", 6, "XY")) {
            way.due(new int[] {6, 6, 5, 5, 0, 0}, 6, 8, 5, 5, 0, 0);
        }
    }

    static void marksMoveByOneAndByForty() {
        for (Way way : comings("abc", 1, "X")) {
            way.due(new int[] {0, 0, 1, 1, 2, 2}, 0, 0, 1, 2, 3, 3);
        }
        for (Way way : comings("abc", 1, Starts.FORTY)) {
            way.due(new int[] {0, 0, 1, 1, 2, 2}, 0, 0, 1, 41, 42, 42);
        }
    }

    /** "When a stretch from p with the count n goes, a mark at p + n or beyond moves by -n". */
    static void aMarkAtTheEndOfWhatGoesMovesWithTheRest() {
        for (Way way : goings("abcdef", 2, "XYZ")) {
            way.due(new int[] {5, 5, 6, 6, 9, 9}, 2, 2, 3, 3, 6, 6);
        }
    }

    /** "one between p and p + n moves to p." */
    static void aMarkInsideWhatGoesMovesToItsStart() {
        for (Way way : goings("abcdef", 2, "XYZ")) {
            way.due(new int[] {3, 3, 4, 4}, 2, 2, 2, 2);
        }
    }

    /** A mark at p or before it is not named, so it stays. */
    static void aMarkAtTheStartOfWhatGoesStays() {
        for (Way way : goings("abcdef", 2, "XYZ")) {
            way.due(new int[] {2, 2, 1, 1, 0, 0}, 2, 2, 1, 1, 0, 0);
        }
    }

    static void marksMoveWhenOneCharacterGoes() {
        for (Way way : goings("abc", 1, "X")) {
            way.due(new int[] {0, 1, 1, 2, 3, 4}, 0, 1, 1, 1, 2, 3);
        }
    }

    static void marksMoveWhenAllOfFortyGo() {
        for (Way way : goings("a", 0, Starts.FORTY)) {
            way.due(new int[] {0, 1, 39, 40, 40, 41}, 0, 0, 0, 0, 0, 1);
        }
    }

    static void marksMoveWhenTwoThousandGoAndComeBack() {
        BranchingText x = Starts.fullOfCharacters();
        x.mark(0, 0, true);
        x.mark(1, 1999, true);
        x.delete(0, 2000);
        CHECKS.duePlaces("delete(0, 2000)", x, 0, 0, 0, 0, BranchingText.BAD);
        x.undo();
        CHECKS.duePlaces("undo of it", x, 2000, 2000, 2000, 0, BranchingText.BAD);
    }

    /** "marks move": they keep no place from before, so what was squeezed to p is not spread again. */
    static void aMarkThatWasSqueezedDoesNotComeBack() {
        BranchingText x = Checks.holding("abcdef");
        x.mark(0, 3, false);
        x.mark(1, 3, true);
        x.mark(2, 5, false);
        x.delete(2, 3);
        CHECKS.duePlaces("delete(2, 3)", x, 2, 2, 2);
        x.undo();
        CHECKS.duePlaces("undo()", x, 2, 5, 2);
        x.redo();
        CHECKS.duePlaces("redo()", x, 2, 2, 2);
    }

    /** "A call that is refused changes nothing": that holds for refused calls one after the other too. */
    static void manyRefusedCallsChangeNothing() {
        Supplier<BranchingText> start = Starts::branched;
        CHECKS.dueAndUnchanged("a hundred refused calls", start, x -> {
            int sum = 0;
            for (int i = 0; i < 10; i++) {
                sum += x.insert(8) + x.delete(0, 0) + x.copy(0, 8) + x.goTo(5) + x.parent(0);
                sum += x.children(-1) + x.lineStart(2) + x.lineOf(8) + x.find(8) + x.where(2);
            }
            return sum;
        }, -110);
    }

    /** No call but those of which the document says so changes anything. */
    static void callsThatTellChangeNothing() {
        CHECKS.dueAndUnchanged("all calls that tell", Starts::branched, x -> {
            int sum = x.scratch() + x.version() + x.versions() + x.parent(4) + x.children(1);
            sum += x.length() + x.lines() + x.lineStart(1) + x.lineOf(7) + x.find(0);
            return sum + x.where(0) + x.nextMark(4) + x.at(0);
        }, 2 + 3 + 5 + 3 + 2 + 7 + 2 + 3 + 1 + 5 + 3 + 4 + 'a');
    }
}
