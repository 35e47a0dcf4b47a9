import java.io.IOException;
import java.lang.reflect.Field;
import java.lang.reflect.Method;
import java.lang.reflect.Modifier;
import java.nio.file.Files;
import java.nio.file.Path;
import java.util.ArrayList;
import java.util.HashSet;
import java.util.List;
import java.util.Set;
import java.util.regex.Matcher;
import java.util.regex.Pattern;

/**
 * Rules of LANGUAGE.md that can be seen in the class's words or in its parts; the others are for
 * its readers. It runs from the project's own directory, as .ci/run does.
 */
public final class LanguageTest {
    private static final Path SOURCE = Path.of("src", "main", "java", "SelfCheckSteps.java");

    private static final String[] FORBIDDEN = {
        "\\bpackage\\b", "\\b(throws?|try|catch|synchronized|assert)\\b", "->", "::",
        "Exact\\b", "\\bhashCode\\b", "\\bprotected\\b",
        "\\bstatic\\s*\\{", "\\bSystem\\.(?!arraycopy\\b)", "\\b(Thread|random|Random|Object)\\b",
        "import(?!\\s+java\\.util\\.(Arrays|ArrayList|List);)"};

    private static final Due due = new Due();

    public static void main(String[] args) throws IOException {
        String code = withoutComments(Files.readString(SOURCE));
        for (String words : FORBIDDEN) {
            Matcher found = Pattern.compile(words).matcher(code);
            due.is("none of " + words, found.find(), false);
        }
        List<Class<?>> classes = new ArrayList<>(List.of(SelfCheckSteps.class.getDeclaredClasses()));
        classes.add(SelfCheckSteps.class);
        due.is("11: at most twelve classes", classes.size() <= 12, true);
        Set<String> face = new HashSet<>();
        for (Method method : SelfCheckSteps.class.getMethods()) {
            face.add(method.getName());
        }
        for (Class<?> one : classes) {
            checkParts(one, face);
        }
        due.finish();
    }

    private static String withoutComments(String text) {
        return text.replaceAll("(?s)/\\*.*?\\*/", "").replaceAll("//[^\n]*", "");
    }

    private static void checkParts(Class<?> one, Set<String> face) {
        String name = one.getSimpleName();
        boolean isOuter = one == SelfCheckSteps.class;
        due.is("2: " + name + " is static", isOuter || Modifier.isStatic(one.getModifiers()), true);
        int changing = 0;
        for (Field field : one.getDeclaredFields()) {
            boolean isStatic = Modifier.isStatic(field.getModifiers());
            changing += isStatic ? 0 : 1;
            due.is("5: " + name + "." + field.getName() + " is final if it is static",
                !isStatic || Modifier.isFinal(field.getModifiers()), true);
        }
        due.is("11: at most twenty fields of " + name, changing <= 20, true);
        for (Method method : one.getDeclaredMethods()) {
            String full = name + "." + method.getName();
            due.is("1: " + full + " bears no name of the face", face.contains(method.getName()),
                isOuter && Modifier.isPublic(method.getModifiers()));
            due.is("11: at most seven parameters of " + full, method.getParameterCount() <= 7, true);
        }
    }
}
