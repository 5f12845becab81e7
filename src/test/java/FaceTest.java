import java.lang.reflect.Constructor;
import java.lang.reflect.Field;
import java.lang.reflect.Method;
import java.lang.reflect.Modifier;
import java.util.Arrays;
import java.util.Set;
import java.util.TreeSet;

/** The face of the class is the document's, and nothing else can be seen of it. */
public final class FaceTest {
    private static final Set<String> DUE = new TreeSet<>(Arrays.asList(
        "int teach(int, int) IllegalArgumentException",
        "int tick(int) IllegalArgumentException",
        "int read()",
        "int about(int) IllegalArgumentException",
        "int place(int, int) IllegalArgumentException",
        "int field(int) IllegalArgumentException",
        "int others()",
        "int other(int, int) IllegalArgumentException",
        "int choose(int)",
        "int batch(int) IllegalArgumentException IllegalStateException",
        "int paper(int, int) IndexOutOfBoundsException IllegalArgumentException",
        "int amount(int, int) IndexOutOfBoundsException IllegalArgumentException",
        "int twin()",
        "long out(int) IndexOutOfBoundsException",
        "int slips(int) IndexOutOfBoundsException",
        "int slip(int, int, int) IndexOutOfBoundsException IllegalArgumentException",
        "int count(int)"));

    public static void main(String[] args) throws ReflectiveOperationException {
        Checks checks = new Checks();
        Class<ChequeDesk> desk = ChequeDesk.class;
        checks.same("public final", Modifier.PUBLIC | Modifier.FINAL, desk.getModifiers());
        checks.same("methods of the face " + methodsSeen(desk), 1, methodsSeen(desk).equals(DUE) ? 1 : 0);
        fields(checks, desk);
        Constructor<?>[] made = desk.getDeclaredConstructors();
        checks.same("constructors", 1, made.length);
        checks.same("constructor's access", Modifier.PUBLIC, made[0].getModifiers());
        checks.same("constructor's arguments", 0, made[0].getParameterCount());
        noPrivateNamesake(checks, desk);
        checks.close();
    }

    private static Set<String> methodsSeen(Class<?> desk) {
        Set<String> seen = new TreeSet<>();
        for (Method method : desk.getDeclaredMethods()) {
            if (!Modifier.isPrivate(method.getModifiers())) {
                seen.add(told(method));
            }
        }
        return seen;
    }

    private static String told(Method method) {
        StringBuilder text = new StringBuilder();
        if (method.getModifiers() != Modifier.PUBLIC) {
            text.append(Modifier.toString(method.getModifiers())).append(' ');
        }
        text.append(method.getReturnType()).append(' ').append(method.getName()).append('(');
        for (int i = 0; i < method.getParameterCount(); i++) {
            text.append(i == 0 ? "" : ", ").append(method.getParameterTypes()[i]);
        }
        text.append(')');
        for (Class<?> thrown : method.getExceptionTypes()) {
            text.append(' ').append(thrown.getSimpleName());
        }
        return text.toString();
    }

    private static void fields(Checks checks, Class<?> desk) throws ReflectiveOperationException {
        for (Field field : desk.getDeclaredFields()) {
            int access = field.getModifiers();
            if (Modifier.isStatic(access)) {
                checks.same(field.getName() + " is final", 1, Modifier.isFinal(access) ? 1 : 0);
            }
            if (!Modifier.isPrivate(access)) {
                checks.same(field.getName() + " is NONE", 1, field.getName().equals("NONE") ? 1 : 0);
                checks.same("NONE's access", Modifier.PUBLIC | Modifier.STATIC | Modifier.FINAL, access);
                checks.same("NONE", -1, field.getInt(null));
            }
        }
        checks.same("NONE is there", -1, desk.getField("NONE").getInt(null));
    }

    private static void noPrivateNamesake(Checks checks, Class<?> desk) {
        Set<String> names = new TreeSet<>();
        for (Method method : desk.getMethods()) {
            names.add(method.getName());
        }
        for (Method method : desk.getDeclaredMethods()) {
            boolean hidden = Modifier.isPrivate(method.getModifiers());
            checks.same(method.getName() + " has a public namesake", 0, hidden && names.contains(method.getName()) ? 1 : 0);
        }
        for (Class<?> inside : desk.getDeclaredClasses()) {
            checks.same(inside + " is static", 1, Modifier.isStatic(inside.getModifiers()) ? 1 : 0);
            for (Method method : inside.getDeclaredMethods()) {
                checks.same(inside + "'s " + method.getName() + " has a public namesake",
                    0, names.contains(method.getName()) ? 1 : 0);
            }
        }
    }
}
