import java.lang.reflect.Field;
import java.lang.reflect.Member;
import java.lang.reflect.Method;
import java.lang.reflect.Modifier;
import java.util.ArrayList;
import java.util.Collections;
import java.util.List;

/** The public face is the document's, signature by signature, and nothing else of the class can be seen. */
final class FaceTest {
    private static final String INDEX = "IndexOutOfBoundsException";
    private static final String ARGUMENT = "IllegalArgumentException";
    private static final String STATE = "IllegalStateException";

    private static final String[] FACE = {
        "int setUnits(int, int) " + INDEX + " " + ARGUMENT,
        "int addOperation(int, int) " + ARGUMENT + " " + STATE,
        "int addDependence(int, int, int, int) " + INDEX + " " + ARGUMENT + " " + STATE,
        "int setDelay(int, int) " + INDEX + " " + ARGUMENT,
        "int operationCount()",
        "int dependenceCount()",
        "int resourceBound()",
        "int recurrenceBound()",
        "int height(int, int) " + INDEX + " " + ARGUMENT,
        "int schedule(int) " + ARGUMENT,
        "int attempts()",
        "boolean hasSchedule()",
        "int interval() " + STATE,
        "int time(int) " + INDEX + " " + STATE,
        "boolean move(int, int) " + INDEX + " " + ARGUMENT + " " + STATE,
        "int freedom(int) " + INDEX + " " + STATE,
        "int stages() " + STATE,
        "int taken(int, int) " + INDEX + " " + STATE + " " + ARGUMENT,
        "int lifetime(int) " + INDEX + " " + STATE,
        "int live(int) " + STATE + " " + ARGUMENT,
        "int registers() " + STATE,
        "int copies(int) " + INDEX + " " + STATE,
        "int unrolling() " + STATE,
        "int cycles(int) " + STATE + " " + ARGUMENT,
        "int issued(int, int) " + STATE + " " + ARGUMENT,
        "int issue(int, int, int) " + STATE + " " + ARGUMENT + " " + INDEX,
        "int prologue() " + STATE,
        "int epilogue() " + STATE,
        "long digest()",
    };

    private static final Checks checks = new Checks("FaceTest");

    public static void main(String[] args) {
        Class<?> face = LoopScheduler.class;
        checks.isTrue("public final", face.getModifiers() == (Modifier.PUBLIC | Modifier.FINAL));
        checks.equal("constructors", face.getDeclaredConstructors().length, 1);
        checks.equal("constructors without arguments", face.getConstructors()[0].getParameterCount(), 0);
        methods(face);
        fields(face);
        classesInside(face);
        checks.finish();
    }

    private static void methods(Class<?> face) {
        List<String> seen = new ArrayList<>();
        List<String> publicNames = new ArrayList<>();
        List<String> privateNames = new ArrayList<>();
        for (Method method : face.getDeclaredMethods()) {
            if (Modifier.isPrivate(method.getModifiers())) {
                privateNames.add(method.getName());
            } else {
                checks.isTrue(method + " is public alone", method.getModifiers() == Modifier.PUBLIC);
                publicNames.add(method.getName());
                seen.add(signature(method));
            }
        }
        for (Class<?> inside : face.getDeclaredClasses()) {
            for (Method method : inside.getDeclaredMethods()) {
                privateNames.add(method.getName());
            }
        }
        List<String> due = new ArrayList<>(List.of(FACE));
        Collections.sort(due);
        Collections.sort(seen);
        checks.same("the methods", seen.toString(), due.toString());
        checks.isTrue("no private method bears a public name", Collections.disjoint(publicNames, privateNames));
    }

    private static String signature(Method method) {
        StringBuilder text = new StringBuilder();
        text.append(method.getReturnType().getSimpleName()).append(' ').append(method.getName()).append('(');
        for (int k = 0; k < method.getParameterCount(); k++) {
            text.append(k > 0 ? ", " : "").append(method.getParameterTypes()[k].getSimpleName());
        }
        text.append(')');
        for (Class<?> thrown : method.getExceptionTypes()) {
            text.append(' ').append(thrown.getSimpleName());
        }
        return text.toString();
    }

    private static void fields(Class<?> face) {
        for (Field field : face.getDeclaredFields()) {
            checks.isTrue(field + " is private", Modifier.isPrivate(field.getModifiers()));
            unchanging(field);
        }
    }

    private static void classesInside(Class<?> face) {
        for (Class<?> inside : face.getDeclaredClasses()) {
            checks.isTrue(inside + " is private and static",
                    (inside.getModifiers() & (Modifier.PRIVATE | Modifier.STATIC)) == (Modifier.PRIVATE | Modifier.STATIC));
            for (Field field : inside.getDeclaredFields()) {
                unchanging(field);
            }
        }
    }

    private static void unchanging(Member field) {
        int modifiers = field.getModifiers();
        checks.isTrue(field + " is no static state", !Modifier.isStatic(modifiers) || Modifier.isFinal(modifiers));
    }
}
