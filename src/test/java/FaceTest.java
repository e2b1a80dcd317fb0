import java.lang.reflect.Constructor;
import java.lang.reflect.Field;
import java.lang.reflect.Method;
import java.lang.reflect.Modifier;
import java.util.ArrayList;
import java.util.Collections;
import java.util.HashSet;
import java.util.List;
import java.util.Set;

/** The public face: just the document's constants, constructor and methods, and nothing else in sight. */
public final class FaceTest {
    private static final Checks CHECKS = new Checks();
    private static final List<String> FACE = List.of(
        "boolean mark(int,int,boolean)", "boolean type(char)", "boolean unmark(int)", "char at(int)",
        "int children(int)", "int copy(int,int)", "int delete(int,int)", "int find(int)", "int goTo(int)",
        "int insert(int)", "int length()", "int lineOf(int)", "int lineStart(int)", "int lines()",
        "int nextMark(int)", "int parent(int)", "int redo()", "int scratch()", "int undo()", "int version()",
        "int versions()", "int where(int)", "void wipe()");

    public static void main(String[] args) {
        CHECKS.runAll(FaceTest.class);
    }

    static void constants() {
        CHECKS.due("BAD", BranchingText.BAD, -1);
        CHECKS.due("EMPTY", BranchingText.EMPTY, -2);
        CHECKS.due("FULL", BranchingText.FULL, -3);
        CHECKS.due("ABSENT", BranchingText.ABSENT, -4);
    }

    static void theClassItself() {
        CHECKS.due("modifiers of the class", BranchingText.class.getModifiers(), Modifier.PUBLIC | Modifier.FINAL);
        CHECKS.dueSame("the class above it", BranchingText.class.getSuperclass().getName(), "java.lang.Object");
        CHECKS.due("interfaces", BranchingText.class.getInterfaces().length, 0);
        CHECKS.dueSame("its package", BranchingText.class.getPackageName(), "");
    }

    static void theConstructor() {
        Constructor<?>[] constructors = BranchingText.class.getDeclaredConstructors();
        CHECKS.due("constructors", constructors.length, 1);
        CHECKS.due("modifiers of the constructor", constructors[0].getModifiers(), Modifier.PUBLIC);
        CHECKS.due("parameters of the constructor", constructors[0].getParameterCount(), 0);
        CHECKS.due("what the constructor declares to throw", constructors[0].getExceptionTypes().length, 0);
    }

    static void fieldsInSight() {
        List<String> constants = new ArrayList<>();
        for (Field field : BranchingText.class.getDeclaredFields()) {
            if (!Modifier.isPrivate(field.getModifiers())) {
                constants.add(Modifier.toString(field.getModifiers()) + " " + field.getType() + " " + field.getName());
            }
        }
        Collections.sort(constants);
        CHECKS.dueSame("constants in sight", String.join(", ", constants),
            "public static final int ABSENT, public static final int BAD, public static final int EMPTY, public static final int FULL");
    }

    static void classesInside() {
        for (Class<?> inside : BranchingText.class.getDeclaredClasses()) {
            int modifiers = inside.getModifiers();
            CHECKS.due("a class inside is in sight: " + inside, Modifier.isPublic(modifiers) || Modifier.isProtected(modifiers), false);
            CHECKS.due("a class inside is static: " + inside, Modifier.isStatic(modifiers), true);
        }
    }

    static void methods() {
        List<String> inSight = new ArrayList<>();
        Set<String> names = new HashSet<>();
        for (Method method : BranchingText.class.getDeclaredMethods()) {
            if (!Modifier.isPrivate(method.getModifiers())) {
                inSight.add(told(method));
                names.add(method.getName());
                CHECKS.due("modifiers of " + told(method), method.getModifiers(), Modifier.PUBLIC);
                CHECKS.due("what " + told(method) + " declares to throw", method.getExceptionTypes().length, 0);
            }
        }
        Collections.sort(inSight);
        CHECKS.dueSame("methods in sight", inSight.toString(), FACE.toString());
        for (Method method : BranchingText.class.getDeclaredMethods()) {
            if (Modifier.isPrivate(method.getModifiers())) {
                CHECKS.due("a private method has the public name " + method.getName(), names.contains(method.getName()), false);
            }
        }
    }

    private static String told(Method method) {
        StringBuilder told = new StringBuilder(method.getReturnType().getName()).append(' ').append(method.getName()).append('(');
        for (Class<?> type : method.getParameterTypes()) {
            told.append(told.charAt(told.length() - 1) == '(' ? "" : ",").append(type.getName());
        }
        return told.append(')').toString();
    }
}
