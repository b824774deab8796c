import java.lang.reflect.Constructor;
import java.lang.reflect.Field;
import java.lang.reflect.Method;
import java.lang.reflect.Modifier;
import java.util.Arrays;
import java.util.TreeSet;

/** The public face is the document's, and nothing else of the class can be seen. */
final class FaceTest {
    private static final String[] FACE = {
        "boolean back()", "boolean begin(int)", "boolean feed(int)", "boolean write(char)",
        "int at(int)", "int count(int)", "int decode(int,int)",
        "int encode(int) IllegalArgumentException IllegalStateException",
        "int letter(int,int,int)", "int line() IllegalArgumentException IllegalStateException",
        "int size(int)",
        "long value(int,int) IllegalArgumentException IllegalStateException NoSuchElementException",
        "void clear()",
        "void go(int,int) IllegalArgumentException IllegalStateException NoSuchElementException",
        "void number(int,long) IllegalArgumentException IllegalStateException NoSuchElementException",
        "void open(int) IllegalArgumentException IllegalStateException NoSuchElementException",
        "void text(int) IllegalArgumentException IllegalStateException NoSuchElementException"
    };

    public static void main(String[] args) {
        Check check = new Check("FaceTest");
        int kinds = WireSchema.class.getModifiers();
        check.yes("public and final", Modifier.isPublic(kinds) && Modifier.isFinal(kinds));
        TreeSet<String> seen = new TreeSet<>();
        TreeSet<String> names = new TreeSet<>();
        for (Method m : WireSchema.class.getDeclaredMethods()) {
            if (Modifier.isPublic(m.getModifiers())) {
                seen.add(faceOf(m));
                names.add(m.getName());
            }
        }
        check.same("the face", seen.toString(), new TreeSet<>(Arrays.asList(FACE)).toString());
        for (Method m : WireSchema.class.getDeclaredMethods()) {
            if (!Modifier.isPublic(m.getModifiers()) && !m.isSynthetic()) {
                check.yes(m + " is private", Modifier.isPrivate(m.getModifiers()));
                check.no(m + " bears a public name", names.contains(m.getName()));
            }
        }
        for (Field f : WireSchema.class.getDeclaredFields()) {
            check.yes(f + " is private", Modifier.isPrivate(f.getModifiers()));
        }
        Constructor<?>[] constructors = WireSchema.class.getDeclaredConstructors();
        check.same("constructors", constructors.length, 1);
        check.same("its parameters", constructors[0].getParameterCount(), 0);
        check.yes("it is public", Modifier.isPublic(constructors[0].getModifiers()));
        check.end();
    }

    private static String faceOf(Method m) {
        StringBuilder face = new StringBuilder();
        face.append(m.getReturnType().getSimpleName()).append(' ').append(m.getName()).append('(');
        for (Class<?> type : m.getParameterTypes()) {
            face.append(type.getSimpleName()).append(',');
        }
        if (m.getParameterCount() > 0) {
            face.setLength(face.length() - 1);
        }
        face.append(')');
        TreeSet<String> thrown = new TreeSet<>();
        for (Class<?> type : m.getExceptionTypes()) {
            thrown.add(type.getSimpleName());
        }
        for (String name : thrown) {
            face.append(' ').append(name);
        }
        return face.toString();
    }
}
