import java.util.function.Supplier;

/** The boundary cases that promises 6 to 14 name: insert, delete, undo, redo, goTo and what tells of versions. */
public final class VersionsBoundaryTest {
    private static final Checks CHECKS = new Checks();
    /** Of no use as a version in a tree of five, as a position in a text of seven, or as a count there. */
    private static final int[] FAR = {-2, 121, 122, 123, Integer.MAX_VALUE, Integer.MIN_VALUE};

    public static void main(String[] args) {
        CHECKS.runAll(VersionsBoundaryTest.class);
    }

    private static void dueNotInserted(int at, Supplier<BranchingText> start, int want) {
        CHECKS.dueAndUnchanged("insert(" + at + ")", start, x -> x.insert(at), want);
    }

    private static void dueNotDeleted(int from, int count, Supplier<BranchingText> start, int want) {
        CHECKS.dueAndUnchanged("delete(" + from + ", " + count + ")", start, x -> x.delete(from, count), want);
    }

    /** "Inserts the scratch .. at a position": before all. */
    static void insertTakesTheFirstPosition() {
        BranchingText x = Starts.branched();
        CHECKS.due("insert(0)", x.insert(0), 5);
        CHECKS.dueText("insert(0)", x, "xyab\ncdxy");
    }

    /** "Inserts the scratch .. at a position": behind all. */
    static void insertTakesTheLastPosition() {
        BranchingText x = Starts.branched();
        CHECKS.due("insert(7)", x.insert(7), 5);
        CHECKS.dueText("insert(7)", x, "ab\ncdxyxy");
    }

    /** "BAD when there is no such position". */
    static void insertRefusesOtherPositions() {
        dueNotInserted(-1, Starts::branched, BranchingText.BAD);
        dueNotInserted(8, Starts::branched, BranchingText.BAD);
        for (int at : FAR) {
            dueNotInserted(at, Starts::branched, BranchingText.BAD);
        }
    }

    /** A position of another version is none of the one that is there. */
    static void insertGoesByTheTextThatIsThere() {
        BranchingText x = Starts.branched();
        x.goTo(2);
        CHECKS.due("insert(4) into \"acd\"", x.insert(4), BranchingText.BAD);
        CHECKS.due("insert(3) into \"acd\"", x.insert(3), 5);
        CHECKS.due("parent(5)", x.parent(5), 2);
    }

    /** "EMPTY when the scratch is empty". */
    static void insertTakesOneCharacterAndNotNone() {
        dueNotInserted(0, Starts::branchedWithEmptyScratch, BranchingText.EMPTY);
        dueNotInserted(7, Starts::branchedWithEmptyScratch, BranchingText.EMPTY);
        BranchingText x = Starts.branchedWithEmptyScratch();
        x.type('z');
        CHECKS.due("insert(7) of one", x.insert(7), 5);
        CHECKS.dueText("insert(7) of one", x, "ab\ncdxyz");
    }

    /** The scratch has at most 40, and all of them come in. */
    static void insertTakesFortyCharacters() {
        BranchingText x = Checks.holding("ab");
        Checks.write(x, Starts.FORTY);
        CHECKS.due("insert(1)", x.insert(1), 2);
        CHECKS.dueText("insert(1)", x, "a" + Starts.FORTY + "b");
    }

    /** "Inserts the scratch, which stays as it is". */
    static void insertLeavesTheScratch() {
        BranchingText x = Checks.holding("ab");
        Checks.write(x, "xy");
        x.insert(1);
        CHECKS.due("scratch()", x.scratch(), 2);
        x.insert(0);
        CHECKS.dueText("insert(0) again", x, "xyaxyb");
    }

    /** "Versions stay": what the scratch becomes later is not what was inserted. */
    static void insertKeepsWhatTheScratchWasThen() {
        BranchingText x = Checks.holding("ab");
        Checks.write(x, "xy");
        x.insert(1);
        x.undo();
        Checks.write(x, "123");
        CHECKS.due("redo()", x.redo(), 2);
        CHECKS.dueText("redo()", x, "axyb");
    }

    /** "Versions stay": also when the scratch was as long as it can be, and is overwritten from end to end. */
    static void insertKeepsFortyCharacters() {
        BranchingText x = Checks.holding(Starts.FORTY);
        Checks.write(x, Checks.repeated('a', 40));
        x.insert(40);
        x.copy(0, 40);
        CHECKS.dueText("copy over the scratch", x, Starts.FORTY + Checks.repeated('a', 40));
        x.goTo(0);
        CHECKS.due("goTo(2)", x.goTo(2), 2);
        CHECKS.dueText("goTo(2)", x, Starts.FORTY + Checks.repeated('a', 40));
    }

    /** "FULL when there are 122 versions": the last one by an insertion. */
    static void insertMakesThe122ndVersionAndNoMore() {
        BranchingText x = Starts.rowOfVersions(120);
        CHECKS.due("versions() before", x.versions(), 121);
        CHECKS.due("insert of the 122nd", x.insert(0), 121);
        CHECKS.due("versions() behind", x.versions(), 122);
        dueNotInserted(0, Starts::fullOfVersions, BranchingText.FULL);
        dueNotInserted(1, Starts::fullOfVersions, BranchingText.FULL);
    }

    /** "FULL when there are 122 versions": also where a version was undone, for versions stay. */
    static void undoGivesNoVersionBack() {
        BranchingText x = Starts.fullOfVersions();
        x.undo();
        CHECKS.due("insert behind undo", x.insert(0), BranchingText.FULL);
        x.goTo(0);
        CHECKS.due("insert in version 0", x.insert(0), BranchingText.FULL);
        CHECKS.due("versions()", x.versions(), 122);
    }

    /** "more than 2000 characters would have come in": by fifty insertions of forty. */
    static void insertTakesThe2000thCharacterAndNoMore() {
        CHECKS.due("length()", Starts.fullOfCharacters().length(), 2000);
        CHECKS.due("versions()", Starts.fullOfCharacters().versions(), 51);
        dueNotInserted(0, Starts::fullOfCharacters, BranchingText.FULL);
        dueNotInserted(2000, () -> Starts.inserted(50, 40), BranchingText.FULL);
    }

    /** "more than 2000 characters would have come in": an insertion of which only a part would fit. */
    static void insertTakesAllOfTheScratchOrNone() {
        Supplier<BranchingText> with1989 = () -> Starts.inserted(51, 39);
        Supplier<BranchingText> twelveMore = () -> {
            BranchingText x = with1989.get();
            x.copy(0, 12);
            return x;
        };
        dueNotInserted(0, twelveMore, BranchingText.FULL);
        BranchingText x = twelveMore.get();
        CHECKS.due("insert of 12 behind 1989", x.insert(1989), BranchingText.FULL);
        x.copy(0, 11);
        CHECKS.due("insert of 11 behind 1989", x.insert(1989), 52);
        CHECKS.due("length()", x.length(), 2000);
    }

    /** Both limits are reached by one insertion, and that is taken. */
    static void insertMayReachBothLimitsAtOnce() {
        BranchingText x = Starts.beforeBothLimits();
        CHECKS.due("length() before", x.length(), 1984);
        CHECKS.due("insert of 16", x.insert(0), 121);
        CHECKS.due("length()", x.length(), 2000);
        CHECKS.due("versions()", x.versions(), 122);
        CHECKS.due("an insertion more", x.insert(0), BranchingText.FULL);
    }

    /** "by all insertions of all versions together": on branches that are not there too. */
    static void insertCountsAllBranches() {
        Supplier<BranchingText> fiftyBranches = () -> {
            BranchingText x = new BranchingText();
            Checks.write(x, Starts.FORTY);
            for (int i = 0; i < 50; i++) {
                x.insert(0);
                x.undo();
            }
            return x;
        };
        CHECKS.due("children(0)", fiftyBranches.get().children(0), 50);
        CHECKS.due("length()", fiftyBranches.get().length(), 0);
        dueNotInserted(0, fiftyBranches, BranchingText.FULL);
        BranchingText x = fiftyBranches.get();
        Checks.write(x, "z");
        CHECKS.due("insert of the 2001st", x.insert(0), BranchingText.FULL);
    }

    /** "would have come in": what was deleted since has come in all the same. */
    static void deleteGivesNoRoomBack() {
        BranchingText x = Starts.inserted(50, 40);
        CHECKS.due("delete(0, 2000)", x.delete(0, 2000), 51);
        CHECKS.due("insert into the emptied text", x.insert(0), BranchingText.FULL);
    }

    /** "by all insertions": not by steps on to them, nor by steps back from deletions. */
    static void stepsDoNotCountAsInsertions() {
        BranchingText x = Starts.inserted(49, 40);
        for (int i = 0; i < 20; i++) {
            x.undo();
            x.redo();
            x.goTo(0);
            x.goTo(49);
        }
        x.delete(0, 1960);
        x.undo();
        CHECKS.due("copy(0, 40)", x.copy(0, 40), 40);
        CHECKS.due("insert of forty behind 1960", x.insert(0), 51);
        CHECKS.due("insert behind 2000", x.insert(0), BranchingText.FULL);
    }

    /** "BAD .. EMPTY": both hold. */
    static void insertAnswersBadBeforeEmpty() {
        dueNotInserted(-1, Starts::branchedWithEmptyScratch, BranchingText.BAD);
        dueNotInserted(8, Starts::branchedWithEmptyScratch, BranchingText.BAD);
        dueNotInserted(1, BranchingText::new, BranchingText.BAD);
    }

    /** "BAD .. FULL": both hold. */
    static void insertAnswersBadBeforeFull() {
        dueNotInserted(-1, Starts::fullOfVersions, BranchingText.BAD);
        dueNotInserted(2, Starts::fullOfVersions, BranchingText.BAD);
        dueNotInserted(-1, Starts::fullOfCharacters, BranchingText.BAD);
        dueNotInserted(2001, Starts::fullOfCharacters, BranchingText.BAD);
    }

    /** "EMPTY .. FULL": both hold; with no room for characters an empty scratch is EMPTY too. */
    static void insertAnswersEmptyBeforeFull() {
        dueNotInserted(0, Starts::fullOfVersionsWithEmptyScratch, BranchingText.EMPTY);
        BranchingText x = Starts.fullOfCharacters();
        x.wipe();
        CHECKS.due("insert(2000) of nothing", x.insert(2000), BranchingText.EMPTY);
    }

    /** "BAD .. EMPTY .. FULL": all hold. */
    static void insertAnswersBadBeforeEmptyAndFull() {
        dueNotInserted(-1, Starts::fullOfVersionsWithEmptyScratch, BranchingText.BAD);
        dueNotInserted(2, Starts::fullOfVersionsWithEmptyScratch, BranchingText.BAD);
    }

    /** "Deletes a stretch": the first character, the last, and all. */
    static void deleteTakesUpToTheEndOfTheText() {
        int[][] stretches = {{0, 1}, {6, 1}, {0, 7}, {3, 4}};
        String[] left = {"b\ncdxy", "ab\ncdx", "", "ab\n"};
        for (int i = 0; i < left.length; i++) {
            BranchingText x = Starts.branched();
            String call = "delete(" + stretches[i][0] + ", " + stretches[i][1] + ")";
            CHECKS.due(call, x.delete(stretches[i][0], stretches[i][1]), 5);
            CHECKS.dueText(call, x, left[i]);
            CHECKS.due("undo() of " + call, x.undo(), 3);
            CHECKS.dueText("undo() of " + call, x, "ab\ncdxy");
        }
    }

    /** "BAD when there is no such stretch": its end. */
    static void deleteRefusesMoreThanThereIs() {
        dueNotDeleted(0, 8, Starts::branched, BranchingText.BAD);
        dueNotDeleted(6, 2, Starts::branched, BranchingText.BAD);
        dueNotDeleted(7, 1, Starts::branched, BranchingText.BAD);
        dueNotDeleted(8, 1, Starts::branched, BranchingText.BAD);
    }

    /** "BAD when there is no such stretch": its start. */
    static void deleteRefusesOtherPositions() {
        dueNotDeleted(-1, 1, Starts::branched, BranchingText.BAD);
        dueNotDeleted(-1, 2, Starts::branched, BranchingText.BAD);
        for (int from : FAR) {
            dueNotDeleted(from, 1, Starts::branched, BranchingText.BAD);
        }
    }

    /** "BAD when there is no such stretch": one of fewer than no characters. */
    static void deleteRefusesANegativeCount() {
        dueNotDeleted(0, -1, Starts::branched, BranchingText.BAD);
        dueNotDeleted(3, -1, Starts::branched, BranchingText.BAD);
        dueNotDeleted(7, -7, Starts::branched, BranchingText.BAD);
        dueNotDeleted(7, Integer.MIN_VALUE, Starts::branched, BranchingText.BAD);
    }

    static void deleteOfTheEmptyTextIsRefused() {
        dueNotDeleted(0, 1, BranchingText::new, BranchingText.BAD);
        dueNotDeleted(0, 0, BranchingText::new, BranchingText.EMPTY);
    }

    /** "EMPTY when count is 0": at the first position, inside, and at the last. */
    static void deleteRefusesNone() {
        dueNotDeleted(0, 0, Starts::branched, BranchingText.EMPTY);
        dueNotDeleted(3, 0, Starts::branched, BranchingText.EMPTY);
        dueNotDeleted(7, 0, Starts::branched, BranchingText.EMPTY);
    }

    /** "FULL when there are 122 versions": the last one by a deletion. */
    static void deleteMakesThe122ndVersionAndNoMore() {
        BranchingText x = Starts.rowOfVersions(119);
        Checks.write(x, "bc");
        x.insert(1);
        CHECKS.due("delete as the 122nd", x.delete(0, 1), 121);
        CHECKS.due("versions()", x.versions(), 122);
        CHECKS.dueText("delete as the 122nd", x, "bc");
        dueNotDeleted(0, 1, Starts::fullOfVersions, BranchingText.FULL);
    }

    /** The 2000 are no reason to refuse a deletion. */
    static void deleteTakesAllOf2000() {
        BranchingText x = Starts.fullOfCharacters();
        CHECKS.due("delete(0, 2001)", x.delete(0, 2001), BranchingText.BAD);
        CHECKS.due("delete(1999, 2)", x.delete(1999, 2), BranchingText.BAD);
        CHECKS.due("delete(0, 2000)", x.delete(0, 2000), 51);
        CHECKS.due("length()", x.length(), 0);
        CHECKS.due("undo()", x.undo(), 50);
        CHECKS.due("length() behind undo", x.length(), 2000);
        CHECKS.due("find(1960)", x.find(1960), 1960);
    }

    /** "BAD .. EMPTY": both hold. */
    static void deleteAnswersBadBeforeEmpty() {
        dueNotDeleted(-1, 0, Starts::branched, BranchingText.BAD);
        dueNotDeleted(8, 0, Starts::branched, BranchingText.BAD);
        dueNotDeleted(1, 0, BranchingText::new, BranchingText.BAD);
        for (int from : FAR) {
            dueNotDeleted(from, 0, Starts::branched, BranchingText.BAD);
        }
    }

    /** "BAD .. FULL": both hold. */
    static void deleteAnswersBadBeforeFull() {
        dueNotDeleted(0, 2, Starts::fullOfVersions, BranchingText.BAD);
        dueNotDeleted(1, 1, Starts::fullOfVersions, BranchingText.BAD);
        dueNotDeleted(-1, 1, Starts::fullOfVersions, BranchingText.BAD);
        dueNotDeleted(0, -1, Starts::fullOfVersions, BranchingText.BAD);
    }

    /** "EMPTY .. FULL": both hold. */
    static void deleteAnswersEmptyBeforeFull() {
        dueNotDeleted(0, 0, Starts::fullOfVersions, BranchingText.EMPTY);
        dueNotDeleted(1, 0, Starts::fullOfVersions, BranchingText.EMPTY);
    }

    /** "BAD .. EMPTY .. FULL": all hold. */
    static void deleteAnswersBadBeforeEmptyAndFull() {
        dueNotDeleted(-1, 0, Starts::fullOfVersions, BranchingText.BAD);
        dueNotDeleted(2, 0, Starts::fullOfVersions, BranchingText.BAD);
    }

    /** "BAD in version 0": from version 1 it is a step. */
    static void undoStepsToVersionZeroAndNoFurther() {
        BranchingText x = Starts.branched();
        CHECKS.due("undo() in version 3", x.undo(), 1);
        CHECKS.due("undo() in version 1", x.undo(), 0);
        Supplier<BranchingText> inZero = () -> {
            BranchingText y = Starts.branched();
            y.goTo(0);
            return y;
        };
        CHECKS.dueAndUnchanged("undo() in version 0", inZero, BranchingText::undo, BranchingText.BAD);
        CHECKS.dueAndUnchanged("undo() of a new object", BranchingText::new, BranchingText::undo, BranchingText.BAD);
    }

    static void undoStepsBackOverAllVersions() {
        BranchingText x = Starts.fullOfVersions();
        for (int v = 120; v >= 0; v--) {
            CHECKS.due("undo()", x.undo(), v);
        }
        CHECKS.due("undo() in version 0", x.undo(), BranchingText.BAD);
    }

    /** "Steps on to the latest child": of one, and of several. */
    static void redoTakesTheOnlyChildOrTheLatest() {
        BranchingText x = Starts.branched();
        x.goTo(0);
        CHECKS.due("redo() in version 0, with one child", x.redo(), 1);
        CHECKS.due("redo() in version 1, with two children", x.redo(), 3);
        x.goTo(2);
        x.undo();
        CHECKS.due("redo() in version 1 behind a visit of the other", x.redo(), 3);
    }

    /** "BAD when there is none": a new object, the end of a row, the last version of all. */
    static void redoRefusesWithoutChildren() {
        CHECKS.dueAndUnchanged("redo() of a new object", BranchingText::new, BranchingText::redo, BranchingText.BAD);
        Supplier<BranchingText> inTwo = () -> {
            BranchingText x = Starts.branched();
            x.goTo(2);
            return x;
        };
        CHECKS.dueAndUnchanged("redo() in version 2", inTwo, BranchingText::redo, BranchingText.BAD);
        CHECKS.dueAndUnchanged("redo() in version 121", Starts::fullOfVersions, BranchingText::redo, BranchingText.BAD);
    }

    static void redoStepsOnOverAllVersions() {
        BranchingText x = Starts.fullOfVersions();
        x.goTo(0);
        for (int v = 1; v <= 121; v++) {
            CHECKS.due("redo()", x.redo(), v);
        }
        CHECKS.due("redo() in version 121", x.redo(), BranchingText.BAD);
    }

    /** An edit in a version that has children: its own is the latest from then on. */
    static void redoTakesAChildThatWasMadeBehindAnUndo() {
        BranchingText x = Starts.branched();
        x.undo();
        x.delete(0, 1);
        x.undo();
        CHECKS.due("redo()", x.redo(), 5);
        CHECKS.dueText("redo()", x, "b\ncd");
    }

    /** "BAD when there is no such version": the first and the last that there are, and their neighbours. */
    static void goToTakesTheFirstAndTheLastVersion() {
        CHECKS.due("goTo(0)", Starts.branched().goTo(0), 2);
        CHECKS.due("goTo(4)", Starts.branched().goTo(4), 1);
        CHECKS.dueAndUnchanged("goTo(-1)", Starts::branched, x -> x.goTo(-1), BranchingText.BAD);
        CHECKS.dueAndUnchanged("goTo(5)", Starts::branched, x -> x.goTo(5), BranchingText.BAD);
        for (int v : FAR) {
            CHECKS.dueAndUnchanged("goTo(" + v + ")", Starts::branched, x -> x.goTo(v), BranchingText.BAD);
        }
        CHECKS.dueAndUnchanged("goTo(1) of a new object", BranchingText::new, x -> x.goTo(1), BranchingText.BAD);
        CHECKS.dueAndUnchanged("goTo(122)", Starts::fullOfVersions, x -> x.goTo(122), BranchingText.BAD);
    }

    /** "steps back until it is that one": it is so at once, and nothing moves. */
    static void goToTheVersionThatIsThereIsNoStep() {
        CHECKS.dueAndUnchanged("goTo(0) of a new object", BranchingText::new, x -> x.goTo(0), 0);
        CHECKS.dueAndUnchanged("goTo(3) in version 3", Starts::branched, x -> x.goTo(3), 0);
        CHECKS.dueAndUnchanged("goTo(121) in version 121", Starts::fullOfVersions, x -> x.goTo(121), 0);
    }

    /** "or one from which it comes": steps on alone, and steps back alone. */
    static void goToAlongOneBranchGoesOneWay() {
        BranchingText x = Starts.fullOfVersions();
        CHECKS.due("goTo(0)", x.goTo(0), 121);
        CHECKS.due("goTo(1)", x.goTo(1), 1);
        CHECKS.due("goTo(121)", x.goTo(121), 120);
        CHECKS.due("goTo(120)", x.goTo(120), 1);
        CHECKS.due("goTo(0)", x.goTo(0), 120);
        CHECKS.due("goTo(121)", x.goTo(121), 121);
        CHECKS.due("length()", x.length(), 1);
    }

    /** "then on to it": over version 0, from the end of one branch to the end of another, 121 steps. */
    static void goToAcrossVersionZeroGoesBackAndOn() {
        BranchingText x = new BranchingText();
        x.type('a');
        for (int v = 1; v <= 60; v++) {
            x.insert(0);
        }
        x.goTo(0);
        for (int v = 61; v <= 121; v++) {
            x.insert(0);
        }
        CHECKS.due("goTo(60)", x.goTo(60), 121);
        CHECKS.due("length()", x.length(), 60);
        CHECKS.due("goTo(121)", x.goTo(121), 121);
        CHECKS.due("length()", x.length(), 61);
        CHECKS.due("goTo(61)", x.goTo(61), 60);
        CHECKS.due("goTo(1)", x.goTo(1), 2);
    }

    /** "The version that is there": behind each call that changes it, and behind refused ones. */
    static void versionTellsZeroTo121() {
        BranchingText x = new BranchingText();
        CHECKS.due("version() of a new object", x.version(), 0);
        x.undo();
        x.redo();
        x.insert(0);
        CHECKS.due("version() behind refused calls", x.version(), 0);
        CHECKS.due("version()", Starts.fullOfVersions().version(), 121);
    }

    /** "How many versions there are": 1 to 122. */
    static void versionsTellsOneTo122() {
        CHECKS.due("versions() of a new object", new BranchingText().versions(), 1);
        CHECKS.due("versions() with one edit", Checks.holding("a").versions(), 2);
        BranchingText x = Starts.fullOfVersions();
        CHECKS.due("versions()", x.versions(), 122);
        x.goTo(0);
        CHECKS.due("versions() in version 0", x.versions(), 122);
    }

    /** "BAD when there is none": version 0 alone has none. */
    static void parentRefusesVersionZero() {
        CHECKS.dueAndUnchanged("parent(0)", Starts::branched, x -> x.parent(0), BranchingText.BAD);
        CHECKS.dueAndUnchanged("parent(0) of a new object", BranchingText::new, x -> x.parent(0), BranchingText.BAD);
        CHECKS.due("parent(1)", Starts.branched().parent(1), 0);
    }

    /** "or no such version." */
    static void parentTakesTheLastVersionAndNoMore() {
        CHECKS.due("parent(4)", Starts.branched().parent(4), 3);
        CHECKS.dueAndUnchanged("parent(5)", Starts::branched, x -> x.parent(5), BranchingText.BAD);
        CHECKS.dueAndUnchanged("parent(-1)", Starts::branched, x -> x.parent(-1), BranchingText.BAD);
        for (int v : FAR) {
            CHECKS.dueAndUnchanged("parent(" + v + ")", Starts::branched, x -> x.parent(v), BranchingText.BAD);
        }
        CHECKS.due("parent(121)", Starts.fullOfVersions().parent(121), 120);
        CHECKS.dueAndUnchanged("parent(122)", Starts::fullOfVersions, x -> x.parent(122), BranchingText.BAD);
    }

    /** "How many children a version has": none, and all that there can be. */
    static void childrenTellsNoneTo121() {
        BranchingText x = new BranchingText();
        CHECKS.due("children(0) of a new object", x.children(0), 0);
        x.type('a');
        for (int v = 1; v <= 121; v++) {
            x.insert(0);
            x.undo();
            CHECKS.due("children(0) of " + v, x.children(0), v);
        }
        CHECKS.due("children(121)", x.children(121), 0);
        CHECKS.due("insert that is refused", x.insert(0), BranchingText.FULL);
        CHECKS.due("children(0) behind the refused", x.children(0), 121);
    }

    /** "BAD when there is no such version." */
    static void childrenTakesTheLastVersionAndNoMore() {
        CHECKS.due("children(0)", Starts.branched().children(0), 1);
        CHECKS.due("children(4)", Starts.branched().children(4), 0);
        CHECKS.dueAndUnchanged("children(5)", Starts::branched, x -> x.children(5), BranchingText.BAD);
        CHECKS.dueAndUnchanged("children(-1)", Starts::branched, x -> x.children(-1), BranchingText.BAD);
        for (int v : FAR) {
            CHECKS.dueAndUnchanged("children(" + v + ")", Starts::branched, x -> x.children(v), BranchingText.BAD);
        }
        CHECKS.due("children(121)", Starts.fullOfVersions().children(121), 0);
        CHECKS.dueAndUnchanged("children(122)", Starts::fullOfVersions, x -> x.children(122), BranchingText.BAD);
    }
}
