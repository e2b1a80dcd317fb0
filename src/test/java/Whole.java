import java.util.function.Supplier;

/**
 * What calls can tell of an object. A scratch that can't be inserted any more is only sought in each version.
 * It takes more calls than one object is good for, and some of them change it, so each part is read from a
 * new object that the same recipe makes.
 */
final class Whole {
    private static final int READ_AT_ONCE = 150;
    private static final int MOST_INSERTIONS = 64;

    private final Supplier<BranchingText> recipe;
    private final StringBuilder told = new StringBuilder();

    private Whole(Supplier<BranchingText> recipe) {
        this.recipe = recipe;
    }

    static String of(Supplier<BranchingText> recipe) {
        Whole whole = new Whole(recipe);
        whole.tellCounts();
        whole.tellMarks();
        whole.tellScratch();
        whole.tellRoom();
        int versions = recipe.get().versions();
        for (int v = 0; v < versions; v++) {
            whole.tellVersion(v);
        }
        return whole.told.toString();
    }

    private void tell(String name, int value) {
        told.append(name).append(' ').append(value).append("; ");
    }

    private void tellCounts() {
        BranchingText x = recipe.get();
        tell("version", x.version());
        tell("versions", x.versions());
        tell("length", x.length());
        tell("lines", x.lines());
        tell("scratch", x.scratch());
    }

    /** In version 0 all marks are at 0, and version 1 is an insertion at 0: there it shows how they lean. */
    private void tellMarks() {
        BranchingText x = recipe.get();
        for (int m = 0; m < 6; m++) {
            tell("mark " + m, x.where(m));
        }
        x.goTo(0);
        if (x.versions() == 1) {
            Checks.write(x, "+");
            x.insert(0);
        } else {
            x.goTo(1);
        }
        for (int m = 0; m < 6; m++) {
            tell("mark " + m + " in version 1", x.where(m));
        }
    }

    private void tellScratch() {
        BranchingText x = recipe.get();
        int end = x.length();
        tell("inserted", x.insert(end));
        tellText(x, end, x.length());
    }

    /** How many characters can still be inserted: greatest pieces first, so that few calls use them up. */
    private void tellRoom() {
        BranchingText x = recipe.get();
        int room = 0;
        for (int size = 32; size > 0; size /= 2) {
            Checks.write(x, Checks.repeated('+', size));
            for (int i = 0; i < MOST_INSERTIONS && x.insert(0) > 0; i++) {
                room += size;
            }
        }
        tell("room", room);
    }

    private void tellVersion(int v) {
        BranchingText x = recipe.get();
        tell("of version " + v + " parent", x.parent(v));
        tell("children", x.children(v));
        tell("steps", x.goTo(v));
        int length = x.length();
        tell("length", length);
        tell("found", x.find(0));
        tell("latest", x.redo());
        for (int from = 0; from < length; from += READ_AT_ONCE) {
            BranchingText y = recipe.get();
            y.goTo(v);
            tellText(y, from, Math.min(from + READ_AT_ONCE, length));
        }
    }

    private void tellText(BranchingText x, int from, int to) {
        told.append('"');
        for (int i = from; i < to; i++) {
            told.append(x.at(i));
        }
        told.append("\"; ");
    }
}
