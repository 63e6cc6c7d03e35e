import java.lang.reflect.Constructor;
import java.lang.reflect.Field;
import java.lang.reflect.Method;
import java.lang.reflect.Modifier;
import java.util.TreeSet;

/** The public face: every constant, the constructor and the methods of the document, and nothing besides. */
public final class FaceTest {
    private static final Checks checks = new Checks();
    private static final String[] METHODS = {
        "add int int long", "clear int", "copy int int int int", "join int int", "turn int int int", "size int", "at int int",
        "hash int int int", "mac int int int int", "expand int int int int int", "agree int int int", "open int int",
        "pair int int int", "lock int int int int int int", "unlock int int int int int int", "use int int",
        "sender int int int int int int int", "receiver int int int int int int", "seal int int int int",
        "unseal int int int int", "export int int int int", "sequence int int int int", "told int int", "secret int int int"};
    private static final String[] CONSTANTS = {"NONE", "BAD", "FULL", "INVALID", "SHARED", "LIMIT", "REFUSED"};

    public static void main(String[] args) throws IllegalAccessException {
        Class<?> face = KeySealer.class;
        checks.due("public and final", face.getModifiers() & (Modifier.PUBLIC | Modifier.FINAL), Modifier.PUBLIC | Modifier.FINAL);
        checks.due("nothing is taken over from another class", face.getSuperclass() == Object.class ? 1 : 0, 1);
        checks.due("interfaces", face.getInterfaces().length, 0);
        methods(face);
        constants(face);
        Constructor<?>[] made = face.getDeclaredConstructors();
        checks.due("constructors", made.length, 1);
        checks.due("its parameters", made[0].getParameterCount(), 0);
        checks.due("it names no exceptions", made[0].getExceptionTypes().length, 0);
        checks.due("it is public", made[0].getModifiers() & Modifier.PUBLIC, Modifier.PUBLIC);
        for (Class<?> inside : face.getDeclaredClasses()) {
            checks.due(inside + " is static", inside.getModifiers() & Modifier.STATIC, Modifier.STATIC);
            checks.due(inside + " is not public", inside.getModifiers() & (Modifier.PUBLIC | Modifier.PROTECTED), 0);
        }
        checks.end("FaceTest");
    }

    private static void methods(Class<?> face) {
        TreeSet<String> want = new TreeSet<>(java.util.List.of(METHODS));
        TreeSet<String> names = new TreeSet<>();
        TreeSet<String> got = new TreeSet<>();
        for (String method : METHODS) {
            names.add(method.substring(0, method.indexOf(' ')));
        }
        for (Method method : face.getDeclaredMethods()) {
            if (Modifier.isPrivate(method.getModifiers())) {
                checks.due(method.getName() + " bears a public name", names.contains(method.getName()) ? 1 : 0, 0);
                continue;
            }
            StringBuilder all = new StringBuilder(method.getName());
            for (Class<?> type : method.getParameterTypes()) {
                all.append(' ').append(type);
            }
            got.add(all.toString());
            checks.due(all + " is public", method.getModifiers(), Modifier.PUBLIC);
            checks.due(all + " answers an int", method.getReturnType() == int.class ? 1 : 0, 1);
            checks.due(all + " names no exceptions", method.getExceptionTypes().length, 0);
        }
        checks.due("methods", got.toString(), want.toString());
    }

    private static void constants(Class<?> face) throws IllegalAccessException {
        int[] values = {-1, -2, -3, -11, -12, -13, -14};
        TreeSet<String> want = new TreeSet<>(java.util.List.of(CONSTANTS));
        TreeSet<String> got = new TreeSet<>();
        for (Field field : face.getDeclaredFields()) {
            if (Modifier.isPrivate(field.getModifiers())) {
                continue;
            }
            got.add(field.getName());
            checks.due(field + "", field.getModifiers(), Modifier.PUBLIC | Modifier.STATIC | Modifier.FINAL);
            for (int i = 0; i < CONSTANTS.length; i++) {
                if (CONSTANTS[i].equals(field.getName())) {
                    checks.due(field.getName(), field.getInt(null), values[i]);
                }
            }
        }
        checks.due("constants", got.toString(), want.toString());
    }
}
