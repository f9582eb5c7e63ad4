import java.lang.reflect.Constructor;
import java.lang.reflect.Field;
import java.lang.reflect.Method;
import java.lang.reflect.Modifier;
import java.util.Set;
import java.util.TreeSet;

/** The document's public face, and no member beside it that is not private. */
final class FaceTest {
    private static final String[] DUE = {
        "NONE = -1", "FULL = -2", "BEYOND = 1", "CHECKED = 2", "TORN = 3", "UNENDED = 4",
        "UNBEGUN = 5", "UNKNOWN = 6",
        "FragmentLog()",
        "void clear(int) IllegalArgumentException",
        "int feed(int int int int int) IllegalArgumentException IllegalStateException",
        "int erase()",
        "int check(int) IllegalArgumentException",
        "int append()",
        "int raw(int) IllegalArgumentException",
        "int put(int int) IndexOutOfBoundsException IllegalArgumentException",
        "int cut(int) IllegalArgumentException",
        "int begin(int) IllegalArgumentException",
        "int read()",
        "int octet(int)",
        "int first()",
        "int count(int) IllegalArgumentException",
        "int told(int int) IllegalArgumentException",
        "int log(int)",
    };

    public static void main(String[] args) throws IllegalAccessException {
        Set<String> got = new TreeSet<>();
        for (Field field : FragmentLog.class.getDeclaredFields()) {
            if (!Modifier.isPrivate(field.getModifiers())) {
                Expect.same(field.getName() + " is public static final", field.getModifiers(),
                        Modifier.PUBLIC | Modifier.STATIC | Modifier.FINAL);
                got.add(field.getName() + " = " + field.getInt(null));
            }
        }
        for (Constructor<?> made : FragmentLog.class.getDeclaredConstructors()) {
            Expect.same("the constructor is public", made.getModifiers(), Modifier.PUBLIC);
            got.add("FragmentLog(" + names(made.getParameterTypes()) + ")");
        }
        for (Method method : FragmentLog.class.getDeclaredMethods()) {
            if (!Modifier.isPrivate(method.getModifiers())) {
                Expect.same(method.getName() + " is public", method.getModifiers(), Modifier.PUBLIC);
                got.add((method.getReturnType().getSimpleName() + " " + method.getName() + "("
                        + names(method.getParameterTypes()) + ") " + names(method.getExceptionTypes())).trim());
            }
        }
        Expect.same("the face", got, new TreeSet<>(Set.of(DUE)));
        Expect.same("the class is public and final", FragmentLog.class.getModifiers(),
                Modifier.PUBLIC | Modifier.FINAL);
        Expect.end("FaceTest");
    }

    private static String names(Class<?>[] types) {
        StringBuilder names = new StringBuilder();
        for (Class<?> type : types) {
            names.append(names.length() == 0 ? "" : " ").append(type.getSimpleName());
        }
        return names.toString();
    }
}
