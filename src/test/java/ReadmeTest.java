import java.io.ByteArrayOutputStream;
import java.io.File;
import java.io.IOException;
import java.io.PrintStream;
import java.lang.reflect.Method;
import java.lang.reflect.Modifier;
import java.net.URL;
import java.net.URLClassLoader;
import java.nio.charset.StandardCharsets;
import java.nio.file.Files;
import java.nio.file.Path;
import java.util.regex.Matcher;
import java.util.regex.Pattern;
import javax.tools.ToolProvider;

/** README.md: its program compiles and prints what stands there, and its table has every call of the face. */
public final class ReadmeTest {
    public static void main(String[] args) throws IOException, ReflectiveOperationException {
        String text = Files.readString(Path.of("README.md"));
        Check.dueSame("what the program prints", part(text, "text"), printed(part(text, "java")));
        everyCallIsNamed(text);
        everyTestIsNamed(text);
        Check.finish();
    }

    private static String part(String text, String kind) {
        Matcher part = Pattern.compile("```" + kind + "\n(.*?)```", Pattern.DOTALL).matcher(text);
        return part.find() ? part.group(1) : "";
    }

    private static String printed(String program) throws IOException, ReflectiveOperationException {
        Path place = Files.createTempDirectory("readme");
        Path file = Files.writeString(place.resolve("Example.java"), program);
        String classes = System.getProperty("java.class.path");
        int failed = ToolProvider.getSystemJavaCompiler().run(null, null, null, "-cp", classes, "-d", place.toString(),
                file.toString());
        Check.due("compiling the program", failed, 0);
        String printed = failed == 0 ? run(place) : "";
        for (File made : place.toFile().listFiles()) {
            made.delete();
        }
        Files.delete(place);
        return printed;
    }

    private static String run(Path place) throws IOException, ReflectiveOperationException {
        PrintStream before = System.out;
        ByteArrayOutputStream bytes = new ByteArrayOutputStream();
        try (URLClassLoader loader = new URLClassLoader(new URL[] {place.toUri().toURL()});
                PrintStream caught = new PrintStream(bytes, true, StandardCharsets.UTF_8)) {
            Method main = loader.loadClass("Example").getMethod("main", String[].class);
            System.setOut(caught);
            main.invoke(null, (Object) new String[0]);
        } finally {
            System.setOut(before);
        }
        return bytes.toString(StandardCharsets.UTF_8).replace(System.lineSeparator(), "\n");
    }

    private static void everyCallIsNamed(String text) {
        for (Method m : ContentLibrary.class.getDeclaredMethods()) {
            if (Modifier.isPublic(m.getModifiers())) {
                Check.due("the table has " + m.getName(), text.contains("| `" + m.getName() + "(") ? 1 : 0, 1);
            }
        }
    }

    private static void everyTestIsNamed(String text) {
        for (File file : new File("src/test/java").listFiles()) {
            String name = file.getName().replace(".java", "");
            Check.due("the file names " + name, text.contains("`" + name + "`") ? 1 : 0, 1);
        }
    }
}
