import java.io.IOException;
import java.lang.reflect.Field;
import java.lang.reflect.Method;
import java.lang.reflect.Modifier;
import java.nio.file.Files;
import java.nio.file.Path;
import java.util.ArrayList;
import java.util.List;
import java.util.Set;
import java.util.TreeSet;
import java.util.regex.Matcher;
import java.util.regex.Pattern;

/** The rules of ../shared/LANGUAGE.md that can be seen in the file or in the classes made of it. */
public final class LanguageTest {
    private static final Path FILE = Path.of("src/main/java/ContentLibrary.java");
    private static final Set<String> IMPORTS = Set.of("java.util.ArrayList", "java.util.List", "java.util.Arrays",
            "java.util.Iterator", "java.util.NoSuchElementException");
    private static final Set<String> OF_LIBRARY = Set.of("System.arraycopy", "Arrays.copyOf", "Arrays.copyOfRange",
            "Arrays.fill", "List.of");
    private static final Set<String> EXCEPTIONS = Set.of("IllegalStateException", "IllegalArgumentException",
            "IndexOutOfBoundsException", "ArithmeticException", "UnsupportedOperationException",
            "NoSuchElementException", "RuntimeException");
    private static final Set<Class<?>> CONSTANTS = Set.of(int.class, long.class, boolean.class, char.class,
            String.class, int[].class, long[].class, char[].class, byte[].class);

    public static void main(String[] args) throws IOException {
        String text = withoutComments(Files.readString(FILE));
        words(text);
        lambdas(text);
        library(text);
        exceptions(text);
        namesOfPrivateMethods();
        classes();
        Check.finish();
    }

    private static String withoutComments(String text) {
        String code = Pattern.compile("/\\*.*?\\*/", Pattern.DOTALL).matcher(text).replaceAll("");
        return code.replaceAll("//[^\n]*", "");
    }

    /** What the file never says: rules 2, 4, 5, 6, 10 (texts joined by +) and 13. */
    private static void words(String text) {
        String[] never = {"::", "\\bpackage\\b", "\\bfinally\\b", "\\btry \\(", "\\bsynchronized\\b", "\\bassert\\b",
            "\\bstatic \\{", "Exact\\b", "\\.getMessage\\b", "\\bThread\\b", "\\bRandom\\b", "\" \\+", "\\+ \""};
        for (String word : never) {
            Check.due("uses of " + word, Pattern.compile(word).matcher(text).results().count(), 0);
        }
    }

    /** Rule 2: no lambda; an arrow is one of a switch. */
    private static void lambdas(String text) {
        for (String line : text.split("\n")) {
            boolean lambda = line.contains("->") && !line.matches("\\s*(case|default)\\b.*");
            Check.due("a lambda: " + line.strip(), lambda ? 1 : 0, 0);
        }
    }

    /** Rule 4: "only what stands here". */
    private static void library(String text) {
        Matcher imports = Pattern.compile("import ([^;]*);").matcher(text);
        while (imports.find()) {
            Check.due("the rules list " + imports.group(1), IMPORTS.contains(imports.group(1)) ? 1 : 0, 1);
        }
        Matcher calls = Pattern.compile("\\b(?:System|Arrays|List)\\.\\w+").matcher(text);
        while (calls.find()) {
            Check.due("the rules list " + calls.group(), OF_LIBRARY.contains(calls.group()) ? 1 : 0, 1);
        }
    }

    /** Rule 6: "throw new E() or throw new E("a written text"), E one of" seven. */
    private static void exceptions(String text) {
        Matcher throwing = Pattern.compile("\\bthrow\\b([^;]*);").matcher(text);
        while (throwing.find()) {
            Matcher written = Pattern.compile("\\s+new (\\w+)\\(\\s*(\"[^\"]*\")?\\)").matcher(throwing.group(1));
            boolean right = written.matches() && EXCEPTIONS.contains(written.group(1));
            Check.due("as the rules say: " + throwing.group(), right ? 1 : 0, 1);
        }
    }

    /** Rule 1: "No private method bears the name of a public one." */
    private static void namesOfPrivateMethods() {
        Set<String> face = new TreeSet<>();
        Set<String> own = new TreeSet<>();
        for (Method m : ContentLibrary.class.getDeclaredMethods()) {
            (Modifier.isPublic(m.getModifiers()) ? face : own).add(m.getName());
        }
        own.retainAll(face);
        Check.dueSame("private methods with a public one's name", Set.of(), own);
    }

    /** Rules 1, 5 and 11: how the classes inside are seen, static fields, and parameters. */
    private static void classes() {
        List<Class<?>> all = new ArrayList<>(List.of(ContentLibrary.class.getDeclaredClasses()));
        for (Class<?> inside : all) {
            Check.due(inside + " is seen", inside.getModifiers() & (Modifier.PUBLIC | Modifier.PROTECTED), 0);
        }
        all.add(ContentLibrary.class);
        for (Class<?> c : all) {
            for (Method m : c.getDeclaredMethods()) {
                Check.due("parameters of " + m + " above seven", Math.max(0, m.getParameterCount() - 7), 0);
            }
            for (Field f : c.getDeclaredFields()) {
                if (Modifier.isStatic(f.getModifiers()) && !f.isSynthetic()) {
                    Check.due(f + " is a constant", isConstant(f) ? 1 : 0, 1);
                }
            }
        }
    }

    private static boolean isConstant(Field f) {
        Class<?> type = f.getType().isArray() ? f.getType().getComponentType() : f.getType();
        return Modifier.isFinal(f.getModifiers()) && (CONSTANTS.contains(f.getType()) || type.isEnum());
    }
}
