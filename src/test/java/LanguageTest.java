import java.io.IOException;
import java.lang.reflect.Field;
import java.lang.reflect.Method;
import java.lang.reflect.Modifier;
import java.nio.file.Files;
import java.nio.file.Path;
import java.util.ArrayList;
import java.util.List;
import java.util.Set;
import java.util.TreeSet;
import java.util.regex.Matcher;
import java.util.regex.Pattern;

/** The rules of ../shared/LANGUAGE.md that can be seen in the file or in the classes made of it. */
public final class LanguageTest {
    private static final Path FILE = Path.of("src/main/java/ContentLibrary.java");
    private static final Pattern HEAD = Pattern.compile(
            "^ {4,8}(?:public |private |static |final )*(?:[\\w\\[\\]]+ )?(\\w+)\\([^;=]*$");
    private static final Set<String> LIBRARY = Set.of("Math.max", "Math.min", "Integer.rotateLeft",
            "Integer.rotateRight", "Long.bitCount", "System.arraycopy", "Arrays.fill");
    private static final Set<String> EXCEPTIONS = Set.of("IllegalStateException", "IllegalArgumentException",
            "IndexOutOfBoundsException", "UnsupportedOperationException");
    private static final Set<Class<?>> CONSTANTS = Set.of(int.class, long.class, boolean.class, char.class,
            String.class, int[].class, long[].class, char[].class, byte[].class);

    public static void main(String[] args) throws IOException {
        String text = withoutComments(Files.readString(FILE));
        words(text);
        library(text);
        exceptions(text);
        methods(text.split("\n"));
        classes();
        Check.finish();
    }

    private static String withoutComments(String text) {
        String code = Pattern.compile("/\\*.*?\\*/", Pattern.DOTALL).matcher(text).replaceAll("");
        return code.replaceAll("//[^\n]*", "");
    }

    /** Rules 2, 3, 5, 6 and 13: what the file never says. */
    private static void words(String text) {
        String[] never = {"->", "::", "\\btry\\b", "\\bcatch\\b", "\\bfinally\\b", "\\bsynchronized\\b", "\\bassert\\b",
            "\\bprotected\\b", "\\bpackage\\b", "\\bdouble\\b", "\\bfloat\\b", "\\bvolatile\\b", "\\bvar\\b",
            "static \\{", "Exact\\b", "\\.getMessage\\b", "\\bThread\\b", "\\bRandom\\b", "\\.class\\b", "\" \\+",
            "\\+ \""};
        for (String word : never) {
            Check.due("uses of " + word, Pattern.compile(word).matcher(text).results().count(), 0);
        }
    }

    /** Rule 4: no library but what it lists; this file needs but these. */
    private static void library(String text) {
        Matcher imports = Pattern.compile("import ([\\w.]+);").matcher(text);
        while (imports.find()) {
            Check.dueSame("an import", "java.util.Arrays", imports.group(1));
        }
        Matcher calls = Pattern.compile("\\b(?:Math|Integer|Long|System|Arrays|String)\\.\\w+").matcher(text);
        while (calls.find()) {
            Check.due("the rules list " + calls.group(), LIBRARY.contains(calls.group()) ? 1 : 0, 1);
        }
    }

    /** Rule 6: throw new E("a written text"). */
    private static void exceptions(String text) {
        Matcher throwing = Pattern.compile("\\bthrow\\b([^;]*);").matcher(text);
        while (throwing.find()) {
            Matcher written = Pattern.compile(" new (\\w+)\\(\"[^\"]*\"\\)").matcher(throwing.group(1));
            boolean right = written.matches() && EXCEPTIONS.contains(written.group(1));
            Check.due("as the rules say: " + throwing.group(), right ? 1 : 0, 1);
        }
    }

    /** Rules 11 and 12: short methods; objects are made in constructors alone, but for what is thrown. */
    private static void methods(String[] lines) {
        Set<String> classes = new TreeSet<>(names(allClasses()));
        String method = "";
        int begun = 0;
        for (int i = 0; i < lines.length; i++) {
            Matcher head = HEAD.matcher(lines[i]);
            if (head.find()) {
                method = head.group(1);
                begun = i;
            }
            if (lines[i].matches(" {4,8}\\}")) {
                Check.due("lines of " + method + " above sixty", Math.max(0, i - begun + 1 - 60), 0);
            }
            boolean makes = lines[i].matches(".*\\bnew\\b.*") && !lines[i].contains("throw new");
            Check.due(method + " makes objects", makes && !classes.contains(method) ? 1 : 0, 0);
        }
    }

    private static List<Class<?>> allClasses() {
        List<Class<?>> all = new ArrayList<>(List.of(ContentLibrary.class.getDeclaredClasses()));
        all.add(ContentLibrary.class);
        return all;
    }

    private static List<String> names(List<Class<?>> classes) {
        return classes.stream().map(Class::getSimpleName).toList();
    }

    /** Rules 1, 5 and 11: classes inside, static fields, parameters, and names of private methods. */
    private static void classes() {
        Check.due("classes above twelve", Math.max(0, allClasses().size() - 12), 0);
        for (Class<?> inside : ContentLibrary.class.getDeclaredClasses()) {
            int modifiers = inside.getModifiers();
            Check.due(inside + " is static", Modifier.isStatic(modifiers) ? 1 : 0, 1);
            Check.due(inside + " is seen", modifiers & (Modifier.PUBLIC | Modifier.PROTECTED), 0);
        }
        Set<String> face = new TreeSet<>();
        for (Method m : ContentLibrary.class.getDeclaredMethods()) {
            if (Modifier.isPublic(m.getModifiers())) {
                face.add(m.getName());
            }
        }
        for (Class<?> c : allClasses()) {
            fields(c);
            for (Method m : c.getDeclaredMethods()) {
                Check.due("parameters of " + m + " above seven", Math.max(0, m.getParameterCount() - 7), 0);
                boolean own = !Modifier.isPublic(m.getModifiers());
                Check.due(m + " bears a public one's name", own && face.contains(m.getName()) ? 1 : 0, 0);
            }
        }
    }

    private static void fields(Class<?> c) {
        int own = 0;
        for (Field f : c.getDeclaredFields()) {
            boolean constant = Modifier.isFinal(f.getModifiers()) && CONSTANTS.contains(f.getType());
            if (Modifier.isStatic(f.getModifiers())) {
                Check.due(f + " is a constant", constant ? 1 : 0, 1);
            } else {
                own++;
            }
        }
        Check.due("fields of " + c + " above twenty", Math.max(0, own - 20), 0);
    }
}
