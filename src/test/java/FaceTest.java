import java.lang.reflect.Constructor;
import java.lang.reflect.Field;
import java.lang.reflect.Member;
import java.lang.reflect.Method;
import java.lang.reflect.Modifier;
import java.util.TreeSet;

/** The public face of the document, and rule 1 of LANGUAGE.md. */
public final class FaceTest {
    private static final String STATE = " IllegalStateException";
    private static final String ARGUMENT = " IllegalArgumentException";
    private static final String BOTH = STATE + ARGUMENT;
    private static final String[] FACE = {
        "void contour 4" + BOTH, "int kind 7" + BOTH, "int enter 1" + BOTH, "boolean code 1" + BOTH,
        "boolean width 1" + BOTH, "boolean weigh 1" + BOTH, "int forward 1" + BOTH, "int back 1" + BOTH,
        "int voucher 0" + STATE, "int give 0" + STATE, "int redeem 1" + BOTH, "int clear 0" + STATE,
        "int empty 2" + BOTH, "boolean service 0" + STATE, "void cut 1" + ARGUMENT, "int power 0",
        "boolean check 2" + ARGUMENT, "int about 2" + ARGUMENT, "int container 2" + ARGUMENT,
        "int belt 1", "int bin 2" + ARGUMENT, "int total 1" + ARGUMENT};

    public static void main(String[] args) {
        Class<?> machine = BottleReturn.class;
        Bench.same("modifiers", machine.getModifiers(), Modifier.PUBLIC | Modifier.FINAL);
        methods(machine);
        fields(machine);
        constructors(machine);
        classesInside(machine);
        Bench.end();
    }

    private static void methods(Class<?> machine) {
        TreeSet<String> due = new TreeSet<>(java.util.List.of(FACE));
        TreeSet<String> names = new TreeSet<>();
        for (Method method : machine.getDeclaredMethods()) {
            if (isPrivate(method)) {
                continue;
            }
            names.add(method.getName());
            Bench.yes("due: " + signature(method), due.remove(signature(method)));
            Bench.same("modifiers of " + method, method.getModifiers(), Modifier.PUBLIC);
        }
        for (Method method : machine.getDeclaredMethods()) {
            Bench.no("private " + method, isPrivate(method) && names.contains(method.getName()));
        }
        Bench.yes("all of the face is there but for " + due, due.isEmpty());
    }

    private static String signature(Method method) {
        StringBuilder text = new StringBuilder();
        text.append(method.getReturnType().getName()).append(' ').append(method.getName());
        text.append(' ').append(method.getParameterCount());
        for (Class<?> thrown : method.getExceptionTypes()) {
            text.append(' ').append(thrown.getSimpleName());
        }
        for (Class<?> taken : method.getParameterTypes()) {
            Bench.yes("int in " + method, taken == int.class);
        }
        return text.toString();
    }

    private static void fields(Class<?> machine) {
        for (Field field : machine.getDeclaredFields()) {
            if (field.getName().equals("NONE")) {
                int due = Modifier.PUBLIC | Modifier.STATIC | Modifier.FINAL;
                Bench.same("modifiers of NONE", field.getModifiers(), due);
            } else {
                Bench.yes("private " + field, isPrivate(field));
            }
        }
    }

    private static void constructors(Class<?> machine) {
        Constructor<?>[] all = machine.getDeclaredConstructors();
        Bench.same("constructors", all.length, 1);
        Bench.same("modifiers of it", all[0].getModifiers(), Modifier.PUBLIC);
        Bench.same("parameters of it", all[0].getParameterCount(), 0);
    }

    private static void classesInside(Class<?> machine) {
        for (Class<?> inside : machine.getDeclaredClasses()) {
            int modifiers = inside.getModifiers();
            Bench.yes("static " + inside, Modifier.isStatic(modifiers));
            Bench.no("open " + inside, Modifier.isPublic(modifiers) || Modifier.isProtected(modifiers));
        }
        Bench.yes("at most twelve classes", machine.getDeclaredClasses().length < 12);
    }

    private static boolean isPrivate(Member member) {
        return Modifier.isPrivate(member.getModifiers());
    }
}
