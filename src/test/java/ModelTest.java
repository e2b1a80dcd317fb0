import java.util.Random;

/** Long runs of drawn calls, each answer held against the model's; the draws are the same each time. */
public final class ModelTest {
    private static final Checks CHECKS = new Checks();
    private static final int CALLS = 512;
    private static final int CALLS_BEYOND = 300;
    private static final int[] ODD = {-1, -2, Integer.MIN_VALUE, Integer.MIN_VALUE + 1, Integer.MAX_VALUE, Integer.MAX_VALUE - 1, 2000, 2001, 122, 41, 6};

    /** How often each call is drawn, in the order of the document's face. */
    private static final int[] ALL_ALIKE = {4, 1, 1, 1, 2, 2, 2, 2, 2, 1, 1, 1, 1, 1, 1, 1, 1, 1, 1, 2, 1, 2, 1};
    private static final int[] GROWING = {40, 1, 1, 1, 14, 1, 1, 1, 1, 0, 0, 0, 0, 1, 1, 1, 1, 1, 1, 1, 0, 1, 1};
    private static final int[] BRANCHING = {6, 1, 0, 1, 8, 8, 6, 5, 8, 1, 1, 2, 2, 1, 1, 1, 1, 1, 1, 4, 1, 6, 3};
    private static final int[] SEEKING = {4, 2, 1, 4, 5, 2, 2, 1, 1, 0, 0, 0, 0, 1, 1, 1, 3, 3, 14, 1, 0, 1, 1};
    private static final int[] FILLING = {0, 0, 0, 0, 10, 1, 2, 1, 4, 1, 1, 1, 1, 1, 1, 1, 1, 1, 1, 3, 0, 4, 2};
    private static final int[] EDITING = {0, 0, 0, 0, 8, 10, 5, 5, 4, 0, 0, 0, 0, 0, 0, 0, 0, 0, 0, 3, 0, 4, 2};

    public static void main(String[] args) {
        CHECKS.runAll(ModelTest.class);
    }

    static void allCallsAlike() {
        runs(1, 400, ALL_ALIKE, 0);
    }

    static void growing() {
        runs(2, 200, GROWING, 0);
    }

    static void branching() {
        runs(3, 600, BRANCHING, 0);
    }

    static void seeking() {
        runs(4, 400, SEEKING, 0);
    }

    static void filling() {
        runs(5, 200, FILLING, 40);
    }

    static void editingWithFortyInTheScratch() {
        runs(6, 200, EDITING, 40);
    }

    static void editingWithThreeInTheScratch() {
        runs(7, 200, EDITING, 3);
    }

    private static void runs(int profile, int count, int[] weights, int typedFirst) {
        for (int run = 0; run < count; run++) {
            new Run(new Random(profile * 100_003L + run), "profile " + profile + ", run " + run, typedFirst).go(weights);
        }
    }

    private static final class Run {
        private final Random random;
        private final String name;
        private final BranchingText x = new BranchingText();
        private final Model model = new Model();
        private int calls = 0;

        Run(Random random, String name, int typedFirst) {
            this.random = random;
            this.name = name;
            for (int i = 0; i < typedFirst; i++) {
                call(0);
            }
        }

        void go(int[] weights) {
            int sum = 0;
            for (int weight : weights) {
                sum += weight;
            }
            while (calls < CALLS + CALLS_BEYOND) {
                int drawn = random.nextInt(sum);
                int which = 0;
                while (drawn >= weights[which]) {
                    drawn -= weights[which];
                    which++;
                }
                call(which);
            }
        }

        /** Behind the last promised call answers are free, but still nothing may be thrown. */
        private void due(String call, long got, long want) {
            calls++;
            if (calls <= CALLS) {
                CHECKS.due(name + ", call " + calls + ", " + call, got, want);
            }
        }

        private void due(String call, boolean got, boolean want) {
            due(call, got ? 1 : 0, want ? 1 : 0);
        }

        private int upTo(int most) {
            int kind = random.nextInt(20);
            if (kind == 0) {
                return ODD[random.nextInt(ODD.length)];
            }
            if (kind <= 2) {
                return most + kind - 1;
            }
            return kind == 3 ? 0 : random.nextInt(most + 1);
        }

        private int position() {
            if (random.nextInt(4) == 0) {
                int place = model.where(random.nextInt(6));
                return place + random.nextInt(3) - 1;
            }
            return upTo(model.length());
        }

        private int count(int from) {
            int rest = Math.max(0, model.length() - Math.max(0, from));
            return random.nextInt(3) > 0 ? upTo(Math.min(rest, 5)) : upTo(rest);
        }

        private char character() {
            int kind = random.nextInt(30);
            if (kind == 0) {
                return (char) random.nextInt(65536);
            }
            if (kind == 1) {
                return (char) (new int[] {9, 10, 11, 13, 31, 32, 126, 127, 0, 128})[random.nextInt(10)];
            }
            return kind < 10 ? '\n' : (char) ('a' + random.nextInt(2));
        }

        private void call(int which) {
            if (which < 6) {
                editingCall(which);
            } else if (which < 13) {
                versionCall(which);
            } else if (which < 19) {
                readingCall(which);
            } else {
                markCall(which);
            }
        }

        private void editingCall(int which) {
            int from = position();
            int count = count(from);
            switch (which) {
                case 0 -> {
                    char c = character();
                    due("type((char) " + (int) c + ")", x.type(c), model.type(c));
                }
                case 1 -> {
                    x.wipe();
                    model.wipe();
                    calls++;
                    due("scratch() behind wipe()", x.scratch(), model.scratch());
                }
                case 2 -> due("scratch()", x.scratch(), model.scratch());
                case 3 -> due("copy(" + from + ", " + count + ")", x.copy(from, count), model.copy(from, count));
                case 4 -> due("insert(" + from + ")", x.insert(from), model.insert(from));
                default -> due("delete(" + from + ", " + count + ")", x.delete(from, count), model.delete(from, count));
            }
        }

        private void versionCall(int which) {
            int v = upTo(model.versions());
            switch (which) {
                case 6 -> due("undo()", x.undo(), model.undo());
                case 7 -> due("redo()", x.redo(), model.redo());
                case 8 -> due("goTo(" + v + ")", x.goTo(v), model.goTo(v));
                case 9 -> due("version()", x.version(), model.version());
                case 10 -> due("versions()", x.versions(), model.versions());
                case 11 -> due("parent(" + v + ")", x.parent(v), model.parent(v));
                default -> due("children(" + v + ")", x.children(v), model.children(v));
            }
        }

        private void readingCall(int which) {
            int p = position();
            int k = upTo(model.lines());
            switch (which) {
                case 13 -> due("length()", x.length(), model.length());
                case 14 -> due("at(" + p + ")", x.at(p), model.at(p));
                case 15 -> due("lines()", x.lines(), model.lines());
                case 16 -> due("lineStart(" + k + ")", x.lineStart(k), model.lineStart(k));
                case 17 -> due("lineOf(" + p + ")", x.lineOf(p), model.lineOf(p));
                default -> due("find(" + p + ")", x.find(p), model.find(p));
            }
        }

        private void markCall(int which) {
            int m = upTo(5);
            int p = position();
            boolean right = random.nextBoolean();
            switch (which) {
                case 19 -> due("mark(" + m + ", " + p + ", " + right + ")", x.mark(m, p, right), model.mark(m, p, right));
                case 20 -> due("unmark(" + m + ")", x.unmark(m), model.unmark(m));
                case 21 -> due("where(" + m + ")", x.where(m), model.where(m));
                default -> due("nextMark(" + p + ")", x.nextMark(p), model.nextMark(p));
            }
        }
    }
}
