import java.io.ByteArrayOutputStream;
import java.io.PrintStream;
import java.lang.reflect.Method;
import java.net.URL;
import java.net.URLClassLoader;
import java.nio.charset.StandardCharsets;
import java.nio.file.Files;
import java.nio.file.Path;
import java.util.regex.Matcher;
import java.util.regex.Pattern;
import javax.tools.ToolProvider;

/** The example that README.md shows compiles, and prints what README.md says. */
public final class ReadmeTest {
    private static final Checks T = new Checks("ReadmeTest");

    public static void main(String[] args) throws Exception {
        Path source = Path.of(args[0]).toAbsolutePath();
        String readme = Files.readString(source.getParent().resolve("../../../README.md").normalize());
        Path folder = Files.createTempDirectory("readme");
        Path example = folder.resolve("Example.java");
        Files.writeString(example, block(readme, "java"));
        T.due("the example compiles", ToolProvider.getSystemJavaCompiler()
            .run(null, null, null, "-d", folder.toString(), "-cp", placeOf(UnbornBells.class), example.toString()), 0);
        String[] got = printed(folder).split("\n");
        String[] told = block(readme, "text").split("\n");
        T.due("lines that it prints", got.length, told.length);
        for (int i = 0; i < told.length && i < got.length; i++) {
            T.yes("«" + told[i] + "» is printed: «" + got[i] + "»", told[i].equals(got[i]));
        }
        Files.delete(folder.resolve("Example.class"));
        Files.delete(example);
        Files.delete(folder);
        T.close();
    }

    /** The first block of that kind. */
    private static String block(String readme, String kind) {
        Matcher block = Pattern.compile("(?s)```" + kind + "\n(.*?)```").matcher(readme);
        T.yes("README.md has a block of " + kind, block.find());
        return block.group(1);
    }

    private static String placeOf(Class<?> c) throws Exception {
        return Path.of(c.getProtectionDomain().getCodeSource().getLocation().toURI()).toString();
    }

    private static String printed(Path folder) throws Exception {
        ByteArrayOutputStream bytes = new ByteArrayOutputStream();
        PrintStream shown = System.out;
        try (URLClassLoader loader = new URLClassLoader(new URL[] {folder.toUri().toURL()}, UnbornBells.class.getClassLoader())) {
            System.setOut(new PrintStream(bytes, true, StandardCharsets.UTF_8));
            Method main = loader.loadClass("Example").getMethod("main", String[].class);
            main.invoke(null, (Object) new String[0]);
        } finally {
            System.setOut(shown);
        }
        return bytes.toString(StandardCharsets.UTF_8).replace("\r", "");
    }
}
