import java.lang.reflect.Method;
import java.lang.reflect.Modifier;
import java.util.Arrays;
import java.util.Comparator;
import java.util.function.Predicate;
import java.util.function.Supplier;
import java.util.function.ToIntFunction;

/** Runs tests, counts the answers that are not as due, and makes the objects that the tests start from. */
final class Checks {
    private static final int SHOWN = 60;

    private String test = "";
    private int checked = 0;
    private int wrong = 0;

    /** Every static method without parameters is a test, save private ones: no list could forget one. */
    void runAll(Class<?> tests) {
        Method[] methods = tests.getDeclaredMethods();
        Arrays.sort(methods, Comparator.comparing(Method::getName));
        int run = 0;
        for (Method method : methods) {
            int modifiers = method.getModifiers();
            if (Modifier.isStatic(modifiers) && !Modifier.isPrivate(modifiers) && method.getParameterCount() == 0) {
                test = method.getName();
                runOne(method);
                run++;
            }
        }
        System.out.println(tests.getName() + ": " + run + " tests, " + checked + " checks, " + wrong + " wrong");
        if (wrong != 0 || checked == 0) {
            System.exit(1);
        }
    }

    private void runOne(Method method) {
        try {
            method.invoke(null);
        } catch (ReflectiveOperationException e) {
            wrong++;
            System.out.println(test + " ended with " + e.getCause());
        }
    }

    private void tellWrong(String what, Object got, Object want) {
        wrong++;
        System.out.println(test + ": " + what + ": answered " + got + ", due is " + want);
    }

    void due(String what, long got, long want) {
        checked++;
        if (got != want) {
            tellWrong(what, got, want);
        }
    }

    void due(String what, boolean got, boolean want) {
        checked++;
        if (got != want) {
            tellWrong(what, got, want);
        }
    }

    void dueSame(String what, String got, String want) {
        checked++;
        if (!got.equals(want)) {
            int from = Math.max(0, Arrays.mismatch(got.toCharArray(), want.toCharArray()) - SHOWN / 2);
            tellWrong(what, excerpt(got, from), excerpt(want, from));
        }
    }

    private static String excerpt(String text, int from) {
        int to = Math.min(text.length(), from + SHOWN);
        return (from == 0 ? "\"" : "..\"") + text.substring(from, to) + (to == text.length() ? "\"" : "\"..");
    }

    void dueText(String what, BranchingText x, String want) {
        dueSame(what + ": the text", textOf(x), want);
    }

    /** Reads the scratch by inserting it at the front of the text, and takes the edit back again. */
    void dueScratch(String what, BranchingText x, String want) {
        due(what + ": scratch()", x.scratch(), want.length());
        if (want.isEmpty()) {
            return;
        }
        String before = textOf(x);
        x.insert(0);
        dueText(what + ": the scratch put in", x, want + before);
        x.undo();
    }

    void duePlaces(String what, BranchingText x, int... want) {
        for (int m = 0; m < want.length; m++) {
            due(what + ": where(" + m + ")", x.where(m), want[m]);
        }
    }

    /** The call gives its answer, and leaves the object as one is on which it was not called. */
    void dueAndUnchanged(String what, Supplier<BranchingText> start, ToIntFunction<BranchingText> call, int want) {
        due(what, call.applyAsInt(start.get()), want);
        Supplier<BranchingText> startAndCall = () -> {
            BranchingText x = start.get();
            call.applyAsInt(x);
            return x;
        };
        dueSame(what + " changes nothing", Whole.of(startAndCall), Whole.of(start));
    }

    void dueAndUnchanged(String what, Supplier<BranchingText> start, Predicate<BranchingText> call) {
        dueAndUnchanged(what, start, x -> call.test(x) ? 1 : 0, 0);
    }

    static String textOf(BranchingText x) {
        StringBuilder text = new StringBuilder();
        int length = x.length();
        for (int i = 0; i < length; i++) {
            text.append(x.at(i));
        }
        return text.toString();
    }

    static void write(BranchingText x, String scratch) {
        x.wipe();
        for (int i = 0; i < scratch.length(); i++) {
            x.type(scratch.charAt(i));
        }
    }

    static BranchingText holding(String text) {
        BranchingText x = new BranchingText();
        write(x, text);
        x.insert(0);
        x.wipe();
        return x;
    }

    static String repeated(char c, int count) {
        return String.valueOf(c).repeat(count);
    }
}
