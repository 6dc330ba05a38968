import java.lang.reflect.Field;
import java.lang.reflect.Method;
import java.lang.reflect.Modifier;
import java.util.Arrays;
import java.util.Set;
import java.util.TreeSet;
import java.util.stream.Collectors;

/** The class shows the document's face and nothing more (rule 1 of LANGUAGE.md). */
public final class FaceTest {
    private static final String[] FACE = {
        "archive() IllegalStateException UnsupportedOperationException",
        "certificate(int int int) NoSuchElementException IllegalArgumentException",
        "certify(int int int int int int int int)"
                + " NoSuchElementException IllegalArgumentException IllegalStateException",
        "configure(int int) IllegalStateException UnsupportedOperationException IllegalArgumentException",
        "count(int) IllegalArgumentException",
        "door(boolean)",
        "enrol(int int) IllegalArgumentException IllegalStateException",
        "entry(int int) NoSuchElementException IllegalArgumentException",
        "finger(int) IllegalStateException IllegalArgumentException",
        "insert(int) IllegalStateException NoSuchElementException",
        "logoff() IllegalStateException",
        "logon(int) IllegalStateException NoSuchElementException",
        "override() IllegalStateException UnsupportedOperationException",
        "pass(int) IllegalArgumentException",
        "remove() IllegalStateException",
        "shutdown() IllegalStateException UnsupportedOperationException",
        "signature(int int int int int int) IllegalArgumentException",
        "start() IllegalStateException",
    };

    public static void main(String[] args) {
        Set<String> shown = new TreeSet<>();
        Set<String> names = new TreeSet<>();
        for (Method method : SecureEntry.class.getDeclaredMethods()) {
            if (!Modifier.isPrivate(method.getModifiers())) {
                shown.add(text(method));
                names.add(method.getName());
            }
        }
        Check.same("the face", new TreeSet<>(Arrays.asList(FACE)).toString(), shown.toString());
        noPrivateMethodBearsAPublicName(names);
        restIsHidden();
        Check.end();
    }

    private static String text(Method method) {
        String answer = method.getReturnType() == int.class ? "" : method.getReturnType() + " ";
        String visibility = Modifier.isPublic(method.getModifiers()) ? "" : "not public ";
        return visibility + answer + method.getName() + "(" + names(method.getParameterTypes(), " ") + ")"
                + Arrays.stream(method.getExceptionTypes())
                        .map(thrown -> " " + thrown.getSimpleName()).collect(Collectors.joining());
    }

    private static String names(Class<?>[] types, String between) {
        return Arrays.stream(types).map(Class::getSimpleName).collect(Collectors.joining(between));
    }

    private static void noPrivateMethodBearsAPublicName(Set<String> names) {
        for (Method method : SecureEntry.class.getDeclaredMethods()) {
            if (Modifier.isPrivate(method.getModifiers()) && names.contains(method.getName())) {
                Check.tell("the private method " + method.getName() + " bears a public name");
            }
        }
    }

    private static void restIsHidden() {
        int shape = SecureEntry.class.getModifiers();
        if (!Modifier.isPublic(shape) || !Modifier.isFinal(shape)) {
            Check.tell("the class is not public and final");
        }
        Check.due("constructors", 1, SecureEntry.class.getDeclaredConstructors().length);
        Check.due("parameters of the public constructor", 0,
                SecureEntry.class.getConstructors()[0].getParameterCount());
        for (Field field : SecureEntry.class.getDeclaredFields()) {
            if (!Modifier.isPrivate(field.getModifiers())) {
                Check.tell("the field " + field.getName() + " is not private");
            }
        }
        for (Class<?> inside : SecureEntry.class.getDeclaredClasses()) {
            if (!Modifier.isPrivate(inside.getModifiers()) || !Modifier.isStatic(inside.getModifiers())) {
                Check.tell("the class " + inside.getSimpleName() + " is not private and static");
            }
        }
    }
}
