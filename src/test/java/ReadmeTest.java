import java.io.ByteArrayOutputStream;
import java.io.IOException;
import java.lang.reflect.Field;
import java.lang.reflect.Method;
import java.lang.reflect.Modifier;
import java.net.URL;
import java.net.URLClassLoader;
import java.nio.file.Files;
import java.nio.file.Path;
import java.util.regex.Matcher;
import java.util.regex.Pattern;
import java.util.stream.Stream;
import javax.tools.ToolProvider;

/** What README.md says works as it stands: its program prints what is said there, and all of the face stands in it. */
public final class ReadmeTest {
    private static final Checks checks = new Checks("ReadmeTest");

    public static void main(String[] args) throws Exception {
        String readme = Files.readString(Path.of("README.md"));
        theExample(readme);
        theFace(readme);
        theTests(readme);
        checks.end();
    }

    private static void theExample(String readme) throws Exception {
        String said = block(readme, "text");
        String printed = printedBy(block(readme, "java"));
        checks.holds("README.md tells what its program prints", !said.isEmpty());
        checks.holds("README.md tells this, not what its program prints:\n" + said + "but:\n" + printed, said.equals(printed));
    }

    private static void theFace(String readme) {
        for (Method method : WhoseHand.class.getDeclaredMethods()) {
            if (!Modifier.isPublic(method.getModifiers())) continue;
            checks.holds("README.md tells of " + method.getName(), readme.contains("`" + method.getName() + "`"));
        }
        for (Field field : WhoseHand.class.getDeclaredFields()) {
            if (!Modifier.isPublic(field.getModifiers())) continue;
            checks.holds("README.md tells of " + field.getName(), readme.contains("`" + field.getName() + "` " + valueOf(field)));
        }
    }

    private static void theTests(String readme) throws IOException {
        try (Stream<Path> files = Files.list(Path.of("src/test/java"))) {
            for (Path file : (Iterable<Path>) files::iterator) {
                String name = file.getFileName().toString();
                if (!name.endsWith("Test.java")) continue;
                checks.holds("README.md tells of " + name, readme.contains("`" + name.replace(".java", "") + "`"));
            }
        }
    }

    private static int valueOf(Field constant) {
        try {
            return constant.getInt(null);
        } catch (IllegalAccessException e) {
            throw new IllegalStateException(e);
        }
    }

    /** The first block of its sort; empty if there is none. */
    private static String block(String readme, String sort) {
        Matcher block = Pattern.compile("(?s)```" + sort + "\n(.*?)```").matcher(readme);
        return block.find() ? block.group(1) : "";
    }

    private static String printedBy(String program) throws Exception {
        Path folder = Files.createTempDirectory("readme");
        try {
            Path source = Files.writeString(folder.resolve("Example.java"), program);
            ByteArrayOutputStream printed = new ByteArrayOutputStream();
            int compiled = ToolProvider.getSystemJavaCompiler().run(null, printed, printed, "-d", folder.toString(),
                "src/main/java/WhoseHand.java", source.toString());
            return compiled == 0 ? runIn(folder) : printed.toString();
        } finally {
            remove(folder);
        }
    }

    private static String runIn(Path folder) throws Exception {
        java.io.PrintStream console = System.out;
        ByteArrayOutputStream printed = new ByteArrayOutputStream();
        // No loader above it: the program runs with the class that was compiled beside it.
        try (URLClassLoader loader = new URLClassLoader(new URL[] {folder.toUri().toURL()}, ClassLoader.getPlatformClassLoader())) {
            System.setOut(new java.io.PrintStream(printed, true));
            loader.loadClass("Example").getMethod("main", String[].class).invoke(null, (Object) new String[0]);
        } finally {
            System.setOut(console);
        }
        return printed.toString().replace("\r\n", "\n");
    }

    private static void remove(Path folder) throws IOException {
        try (Stream<Path> files = Files.list(folder)) {
            for (Path file : (Iterable<Path>) files::iterator) Files.delete(file);
        }
        Files.delete(folder);
    }
}
