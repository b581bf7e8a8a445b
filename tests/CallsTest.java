import java.io.IOException;
import java.io.OutputStream;
import java.io.PrintStream;
import java.lang.reflect.InvocationTargetException;
import java.lang.reflect.Method;
import java.lang.reflect.Modifier;
import java.net.URL;
import java.net.URLClassLoader;
import java.nio.file.Files;
import java.nio.file.Path;
import java.util.ArrayList;
import java.util.HashSet;
import java.util.List;
import java.util.Set;
import java.util.regex.Matcher;
import java.util.regex.Pattern;
import java.util.stream.Stream;
import javax.tools.ToolProvider;

/**
 * «An object is used for at most 512 calls .. what later calls answer is free»: the other tests ask no object more. They
 * are run with a class that counts its calls and throws at the 513th.
 */
public final class CallsTest {
    private static final Checks T = new Checks("CallsTest");
    private static final Pattern CLASS = Pattern.compile("public\\s+final\\s+class\\s+UnbornBells\\s*\\{");
    private static final Pattern METHOD = Pattern.compile("public\\s+(?:int|boolean)\\s+(\\w+)\\s*\\([^)]*\\)\\s*\\{");
    private static final String COUNTING = "private int callsMade; private void countCall() { callsMade++;"
        + " if (callsMade > 512) { throw new IllegalStateException(\"a 513th call\"); } }";

    public static void main(String[] args) throws Exception {
        Path source = Path.of(args[0]).toAbsolutePath();
        Path folder = source.getParent().resolve("../../../tests").normalize();
        Path out = Files.createTempDirectory("calls");
        List<Path> made = new ArrayList<>();
        try {
            Path counting = out.resolve("UnbornBells.java");
            Files.writeString(counting, withCounting(Files.readString(source)));
            compile(out, counting, folder);
            for (String test : testsIn(folder)) {
                run(out, test, args);
            }
        } finally {
            try (Stream<Path> files = Files.walk(out)) {
                files.forEach(made::add);
            }
            for (int i = made.size() - 1; i >= 0; i--) {
                Files.delete(made.get(i));
            }
        }
        T.close();
    }

    private static String withCounting(String source) {
        Set<String> face = new HashSet<>();
        for (Method method : UnbornBells.class.getDeclaredMethods()) {
            if (Modifier.isPublic(method.getModifiers())) {
                face.add(method.getName());
            }
        }
        T.due("the public methods that count", METHOD.matcher(source).results().filter(m -> face.contains(m.group(1))).count(), face.size());
        String counting = METHOD.matcher(source)
            .replaceAll(m -> Matcher.quoteReplacement(face.contains(m.group(1)) ? m.group() + " countCall();" : m.group()));
        return CLASS.matcher(counting).replaceFirst(m -> Matcher.quoteReplacement(m.group() + " " + COUNTING));
    }

    private static List<String> testsIn(Path folder) throws IOException {
        List<String> names = new ArrayList<>();
        try (Stream<Path> files = Files.list(folder)) {
            files.map(file -> file.getFileName().toString()).filter(name -> name.endsWith("Test.java")).sorted()
                .forEach(name -> names.add(name.substring(0, name.length() - 5)));
        }
        names.remove("CallsTest");
        return names;
    }

    private static void compile(Path out, Path counting, Path folder) throws IOException {
        List<String> words = new ArrayList<>(List.of("-encoding", "UTF-8", "-d", out.toString(), counting.toString()));
        try (Stream<Path> files = Files.list(folder)) {
            files.filter(file -> file.toString().endsWith(".java")).forEach(file -> words.add(file.toString()));
        }
        T.due("it compiles", ToolProvider.getSystemJavaCompiler().run(null, null, null, words.toArray(new String[0])), 0);
    }

    private static void run(Path out, String test, String[] args) throws Exception {
        PrintStream shown = System.out;
        String end = "";
        try (URLClassLoader loader = new URLClassLoader(new URL[] {out.toUri().toURL()}, ClassLoader.getPlatformClassLoader())) {
            System.setOut(new PrintStream(OutputStream.nullOutputStream()));
            loader.loadClass(test).getMethod("main", String[].class).invoke(null, (Object) args);
        } catch (InvocationTargetException thrown) {
            end = placeOf(thrown.getCause());
        } finally {
            System.setOut(shown);
        }
        T.yes(test + " keeps to 512 calls" + end, end.isEmpty());
    }

    private static String placeOf(Throwable thrown) {
        StringBuilder s = new StringBuilder(": ").append(thrown.getMessage());
        for (StackTraceElement place : thrown.getStackTrace()) {
            if (!place.getClassName().equals("UnbornBells") && !"java.base".equals(place.getModuleName())) {
                s.append(" < ").append(place.getMethodName()).append(':').append(place.getLineNumber());
            }
        }
        return s.toString();
    }
}
