import java.lang.reflect.Constructor;
import java.lang.reflect.Field;
import java.lang.reflect.Method;
import java.lang.reflect.Modifier;
import java.util.Arrays;
import java.util.TreeSet;

/** The public face is the document's, and nothing beside it can be seen. */
public final class FaceTest {
    private static final Due DUE = new Due("FaceTest");

    private static final String[] METHODS = {
        "int release(int, boolean, int)",
        "boolean stage(int, int, int)",
        "boolean health(int, int, int)",
        "boolean start(int)",
        "boolean report(int, int, int)",
        "boolean hold(int, boolean)",
        "boolean revoke(int)",
        "int tick(int)",
        "int about(int, int)",
        "boolean back(int, int)",
        "int machine(int, int)",
        "int row(int)",
        "boolean pin(int, int)",
        "int offered(int)",
        "boolean may(int, int)",
        "boolean delta(int, int, int)",
        "int cost(int)",
        "int steps(int)",
        "int update(int)",
        "int has(int)"};

    public static void main(String[] args) {
        DUE.yes(Modifier.isPublic(RollStages.class.getModifiers()));
        DUE.yes(Modifier.isFinal(RollStages.class.getModifiers()));
        methods();
        fields();
        constructors();
        classesInside();
        DUE.end();
    }

    private static void methods() {
        TreeSet<String> got = new TreeSet<>();
        TreeSet<String> publicNames = new TreeSet<>();
        for (Method method : RollStages.class.getDeclaredMethods()) {
            if (!Modifier.isPrivate(method.getModifiers())) {
                DUE.is(Modifier.PUBLIC, method.getModifiers());
                got.add(signature(method));
                publicNames.add(method.getName());
            }
        }
        DUE.text(new TreeSet<>(Arrays.asList(METHODS)).toString(), got.toString());
        for (Method method : RollStages.class.getDeclaredMethods()) {
            if (Modifier.isPrivate(method.getModifiers())) {
                DUE.no(publicNames.contains(method.getName()));
            }
        }
    }

    private static String signature(Method method) {
        StringBuilder text = new StringBuilder();
        text.append(method.getReturnType().getName()).append(' ').append(method.getName()).append('(');
        String between = "";
        for (Class<?> type : method.getParameterTypes()) {
            text.append(between).append(type.getName());
            between = ", ";
        }
        return text.append(')').toString();
    }

    private static void fields() {
        for (Field field : RollStages.class.getDeclaredFields()) {
            boolean isNone = field.getName().equals("NONE");
            DUE.is(isNone ? 1 : 0, Modifier.isPrivate(field.getModifiers()) ? 0 : 1);
            if (isNone) {
                DUE.is(Modifier.PUBLIC | Modifier.STATIC | Modifier.FINAL, field.getModifiers());
                DUE.text("int", field.getType().getName());
            }
            if (Modifier.isStatic(field.getModifiers())) {
                DUE.yes(Modifier.isFinal(field.getModifiers()));
            }
        }
    }

    private static void constructors() {
        Constructor<?>[] all = RollStages.class.getDeclaredConstructors();
        DUE.is(1, all.length);
        DUE.is(0, all[0].getParameterCount());
        DUE.yes(Modifier.isPublic(all[0].getModifiers()));
    }

    private static void classesInside() {
        for (Class<?> inside : RollStages.class.getDeclaredClasses()) {
            DUE.yes(Modifier.isStatic(inside.getModifiers()));
            DUE.no(Modifier.isPublic(inside.getModifiers()) || Modifier.isProtected(inside.getModifiers()));
        }
    }
}
