import java.lang.reflect.Constructor;
import java.lang.reflect.Field;
import java.lang.reflect.Method;
import java.lang.reflect.Modifier;
import java.util.Arrays;
import java.util.Set;
import java.util.TreeSet;

/** The public face is the document's, to the letter, and nothing else can be seen (LANGUAGE.md, rule 1). */
public final class FaceTest {
    private static final String[] FACE = {
        "int back() IllegalStateException",
        "int checksum(int) IllegalArgumentException",
        "int code(int) NoSuchElementException",
        "int end(int) IllegalArgumentException",
        "int letter(int) IllegalArgumentException IllegalStateException",
        "int number(int) NoSuchElementException",
        "int numbers() IllegalArgumentException",
        "int octet(int) NoSuchElementException",
        "int pack() IllegalStateException",
        "int text() IllegalArgumentException",
        "int unpack() IllegalArgumentException",
        "int unzigzag(int) IllegalArgumentException",
        "int varint(int) IllegalArgumentException IllegalStateException",
        "int zigzag(int) IllegalArgumentException",
        "void feed(int,int,int,int,int) IllegalStateException",
    };

    public static void main(String[] args) {
        Due due = new Due("FaceTest");
        Class<?> face = PackColumns.class;
        due.same("modifiers", Modifier.toString(face.getModifiers()), "public final");
        due.same("constructors", constructors(face), "[public PackColumns()]");
        due.same("methods", methods(face), new TreeSet<>(Arrays.asList(FACE)));
        due.same("visible fields", visibleFields(face), new TreeSet<String>());
        due.same("classes inside that are not static", unboundClasses(face), new TreeSet<String>());
        due.same("private methods named like public ones", namesakes(face), new TreeSet<String>());
        due.finish();
    }

    private static String constructors(Class<?> face) {
        Set<String> found = new TreeSet<>();
        for (Constructor<?> c : face.getDeclaredConstructors()) {
            found.add(c.toString());
        }
        return found.toString();
    }

    private static Set<String> methods(Class<?> face) {
        Set<String> found = new TreeSet<>();
        for (Method m : face.getDeclaredMethods()) {
            if (!Modifier.isPrivate(m.getModifiers())) {
                found.add(line(m));
            }
        }
        return found;
    }

    private static String line(Method m) {
        StringBuilder line = new StringBuilder();
        line.append(m.getReturnType()).append(' ').append(m.getName()).append('(');
        for (int k = 0; k < m.getParameterCount(); k++) {
            line.append(k == 0 ? "" : ",").append(m.getParameterTypes()[k]);
        }
        line.append(')');
        for (Class<?> thrown : m.getExceptionTypes()) {
            line.append(' ').append(thrown.getSimpleName());
        }
        return line.toString();
    }

    private static Set<String> visibleFields(Class<?> face) {
        Set<String> found = new TreeSet<>();
        for (Field f : face.getDeclaredFields()) {
            if (!Modifier.isPrivate(f.getModifiers())) {
                found.add(f.getName());
            }
        }
        return found;
    }

    private static Set<String> unboundClasses(Class<?> face) {
        Set<String> found = new TreeSet<>();
        for (Class<?> c : face.getDeclaredClasses()) {
            if (!Modifier.isStatic(c.getModifiers())) {
                found.add(c.getSimpleName());
            }
        }
        return found;
    }

    private static Set<String> namesakes(Class<?> face) {
        Set<String> open = new TreeSet<>();
        for (Method m : face.getMethods()) {
            if (m.getDeclaringClass() == face) {
                open.add(m.getName());
            }
        }
        Set<String> found = new TreeSet<>();
        for (Method m : face.getDeclaredMethods()) {
            if (Modifier.isPrivate(m.getModifiers()) && open.contains(m.getName())) {
                found.add(m.getName());
            }
        }
        for (Class<?> c : face.getDeclaredClasses()) {
            for (Method m : c.getDeclaredMethods()) {
                if (open.contains(m.getName())) {
                    found.add(c.getSimpleName() + "." + m.getName());
                }
            }
        }
        return found;
    }
}
