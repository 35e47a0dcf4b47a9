import java.lang.reflect.Constructor;
import java.lang.reflect.Field;
import java.lang.reflect.Method;
import java.lang.reflect.Modifier;
import java.util.Set;
import java.util.TreeSet;

/** The public face, and that the class shows nothing beside it. */
public final class FaceTest {
    private static final Set<String> METHODS = Set.of(
        "int person(int, int, int)", "boolean block(int, boolean)", "int reserve(int, int)",
        "int card(int)", "int code(int)", "int scan(int)", "int twice()", "int lend()",
        "int back(int)", "int end(boolean)", "boolean offline(boolean)", "int join(int)",
        "int clash(int, int)", "int locker(int)", "int open(int, int)", "boolean door(int)",
        "int receipt(int)", "int screen()", "int item(int, int)", "int rows()");

    public static void main(String[] args) {
        Due due = new Due();
        Class<?> face = SelfCheckSteps.class;
        due.is("public final", Modifier.isPublic(face.getModifiers()) && Modifier.isFinal(face.getModifiers()), true);
        due.is("NONE", SelfCheckSteps.NONE, -1);

        Set<String> methods = new TreeSet<>();
        for (Method method : face.getDeclaredMethods()) {
            if (!Modifier.isPrivate(method.getModifiers())) {
                methods.add(signature(method));
                due.is(signature(method) + " is public", Modifier.isPublic(method.getModifiers()), true);
            }
        }
        due.is("methods " + methods, methods.equals(METHODS), true);

        for (Field field : face.getDeclaredFields()) {
            boolean isConstant = field.getName().equals("NONE");
            due.is(field.getName() + " is private", Modifier.isPrivate(field.getModifiers()), !isConstant);
        }

        Constructor<?>[] constructors = face.getDeclaredConstructors();
        due.is("constructors", constructors.length, 1);
        due.is("constructor is public", Modifier.isPublic(constructors[0].getModifiers()), true);
        due.finish();
    }

    private static String signature(Method method) {
        StringBuilder text = new StringBuilder();
        for (Class<?> type : method.getParameterTypes()) {
            text.append(text.length() == 0 ? "" : ", ").append(type.getName());
        }
        return method.getReturnType().getName() + " " + method.getName() + "(" + text + ")";
    }
}
