import java.lang.reflect.Constructor;
import java.lang.reflect.Field;
import java.lang.reflect.Method;
import java.lang.reflect.Modifier;
import java.util.Arrays;
import java.util.Set;
import java.util.TreeSet;
import java.util.stream.Collectors;

/** The public face: what the document lists, with the exceptions that it names, and nothing else. */
public final class FaceTest {
    private static final String STATE = "IllegalStateException";
    private static final String INDEX = "IndexOutOfBoundsException";
    private static final String ARGUMENT = "IllegalArgumentException";
    private static final String UNSUPPORTED = "UnsupportedOperationException";

    public static void main(String[] args) {
        Set<String> wanted = new TreeSet<>(Arrays.asList(
                "int NONE", "int CUT", "ContentLibrary(int) []",
                method("int picture(int,int)", STATE, ARGUMENT, UNSUPPORTED),
                method("int samples(int,int,int,int)", STATE, INDEX, ARGUMENT),
                method("int keep(int)", STATE, INDEX, ARGUMENT, UNSUPPORTED),
                method("int digest(int,int)", STATE, INDEX),
                method("long print(int)", STATE, INDEX),
                method("int sample(int,int,int)", STATE, INDEX),
                method("int near(int,int)", STATE, INDEX, ARGUMENT),
                method("int found(int,int)", STATE, INDEX, ARGUMENT),
                method("int drop(int)", STATE, INDEX),
                method("int sweep()", STATE),
                method("int fuse(int)", STATE, ARGUMENT),
                method("int reopen()"),
                method("int poke(int,int,int)", INDEX, ARGUMENT),
                method("int badAt()"),
                method("int byteAt(int,int)", INDEX),
                method("int told(int)")));
        Check.dueSame("the face", wanted, face());
        Check.due("public and final", ContentLibrary.class.getModifiers(), Modifier.PUBLIC | Modifier.FINAL);
        Check.finish();
    }

    private static String method(String head, String... exceptions) {
        return head + " " + Arrays.toString(exceptions);
    }

    private static Set<String> face() {
        Set<String> face = new TreeSet<>();
        for (Field f : ContentLibrary.class.getDeclaredFields()) {
            if (!Modifier.isPrivate(f.getModifiers())) {
                face.add(f.getType().getSimpleName() + " " + f.getName());
            }
        }
        for (Constructor<?> c : ContentLibrary.class.getDeclaredConstructors()) {
            face.add("ContentLibrary(" + names(c.getParameterTypes(), ",") + ") [" + names(c.getExceptionTypes(), ", ")
                    + "]");
        }
        for (Method m : ContentLibrary.class.getDeclaredMethods()) {
            if (!Modifier.isPrivate(m.getModifiers())) {
                face.add(m.getReturnType().getSimpleName() + " " + m.getName() + "("
                        + names(m.getParameterTypes(), ",") + ") [" + names(m.getExceptionTypes(), ", ") + "]");
            }
        }
        return face;
    }

    private static String names(Class<?>[] types, String between) {
        return Arrays.stream(types).map(Class::getSimpleName).collect(Collectors.joining(between));
    }
}
