import java.lang.reflect.Constructor;
import java.lang.reflect.Field;
import java.lang.reflect.Method;
import java.lang.reflect.Modifier;
import java.util.Arrays;
import java.util.TreeSet;

/**
 * The class has the document's public face, and no other member that can be seen from outside; and rules 1, 5 and 11 of
 * LANGUAGE.md hold as far as the compiled class shows them.
 */
public final class FaceTest {
    private static final int MOST_CLASSES = 12;
    private static final int MOST_FIELDS = 20;
    private static final int MOST_PARAMETERS = 7;

    private static final String[] FACE = {
        "boolean begin(int, int, int)", "boolean crash()", "boolean end()", "boolean start()",
        "boolean write(int, int, int)", "int commit(int, int)", "int culprit()", "int entry(int)", "int finish()",
        "int journal()", "int line(int, int)", "int next()", "int reduced()", "int started()", "int state()",
        "int suspects()", "int verdict(int, int)", "int weight(int)",
    };

    public static void main(String[] args) {
        Class<?> face = CulpritFinder.class;
        Dues.due("public final", Modifier.isPublic(face.getModifiers()) && Modifier.isFinal(face.getModifiers()), true);
        Constructor<?>[] constructors = face.getDeclaredConstructors();
        Dues.due("constructors", constructors.length, 1);
        Dues.due("public constructor", Modifier.isPublic(constructors[0].getModifiers()), true);
        Dues.due("its parameters", constructors[0].getParameterCount(), 0);
        methods(face);
        for (Field field : face.getDeclaredFields()) {
            Dues.due("private field " + field.getName(), Modifier.isPrivate(field.getModifiers()), true);
        }
        rules(face);
        Class<?>[] inside = face.getDeclaredClasses();
        Dues.due("few classes", inside.length < MOST_CLASSES, true);
        for (Class<?> own : inside) {
            int modifiers = own.getModifiers();
            Dues.due(own + " is static", Modifier.isStatic(modifiers), true);
            Dues.due(own + " is hidden", Modifier.isPublic(modifiers) || Modifier.isProtected(modifiers), false);
            rules(own);
        }
        Dues.finishTests();
    }

    /** Rules 1 (private names), 5 (static fields) and 11 (parameters and fields). */
    private static void rules(Class<?> own) {
        int fields = 0;
        for (Field field : own.getDeclaredFields()) {
            boolean isStatic = Modifier.isStatic(field.getModifiers());
            fields += isStatic ? 0 : 1;
            Dues.due(field + " is final if static", !isStatic || Modifier.isFinal(field.getModifiers()), true);
        }
        Dues.due(own + " has few fields", fields <= MOST_FIELDS, true);
        for (Method method : own.getDeclaredMethods()) {
            Dues.due(method + " has few parameters", method.getParameterCount() <= MOST_PARAMETERS, true);
            boolean isPrivate = Modifier.isPrivate(method.getModifiers());
            Dues.due(method + " has a face's name", isPrivate && isOnFace(method.getName()), false);
        }
    }

    private static boolean isOnFace(String name) {
        for (String signature : FACE) {
            if (signature.contains(" " + name + "(")) {
                return true;
            }
        }
        return false;
    }

    private static void methods(Class<?> face) {
        TreeSet<String> seen = new TreeSet<>();
        for (Method method : face.getDeclaredMethods()) {
            if (!Modifier.isPrivate(method.getModifiers())) {
                seen.add(signature(method));
                Dues.due("public " + method.getName(), Modifier.isPublic(method.getModifiers()), true);
                Dues.due("static " + method.getName(), Modifier.isStatic(method.getModifiers()), false);
            }
        }
        TreeSet<String> wanted = new TreeSet<>(Arrays.asList(FACE));
        if (!seen.equals(wanted)) {
            System.out.println("methods are " + seen);
        }
        Dues.due("the methods are the document's", seen.equals(wanted), true);
    }

    private static String signature(Method method) {
        StringBuilder text = new StringBuilder(method.getReturnType().getName());
        text.append(' ').append(method.getName()).append('(');
        String between = "";
        for (Class<?> parameter : method.getParameterTypes()) {
            text.append(between).append(parameter.getName());
            between = ", ";
        }
        return text.append(')').toString();
    }
}
