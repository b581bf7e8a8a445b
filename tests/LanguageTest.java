import java.io.IOException;
import java.lang.reflect.Field;
import java.lang.reflect.Method;
import java.lang.reflect.Modifier;
import java.nio.file.Files;
import java.nio.file.Path;
import java.util.ArrayDeque;
import java.util.Deque;
import java.util.HashSet;
import java.util.List;
import java.util.Set;
import java.util.TreeSet;
import java.util.regex.Matcher;
import java.util.regex.Pattern;

/** What of ../shared/LANGUAGE.md can be seen from the source's words and the class's face. Its argument is the source. */
public final class LanguageTest {
    private static final Checks T = new Checks("LanguageTest");
    private static final String FACE = "state far bell set melt muffle swap days feed end text fault of loud astray child book heard silence"
        + " rows melts siblings right turn fits ask stop late louder ropes free placed quarrels likeliest noneYet raised chorus hopes octaves"
        + " eldest peals undo image look";
    private static final Set<Class<?>> CONSTANTS = Set.of(int.class, long.class, boolean.class, char.class, String.class,
        int[].class, long[].class, char[].class, byte[].class);
    private static final Pattern METHOD =
        Pattern.compile("^ {4,8}((?:public |private |static |final )*)([\\w\\[\\]]+ )?(\\w+)\\(([^)]*)\\) \\{$");

    public static void main(String[] args) throws IOException {
        String source = Files.readString(Path.of(args.length > 0 ? args[0] : "src/main/java/UnbornBells.java"));
        String code = withoutTextsAndComments(source);
        words(code);
        library(code);
        face();
        classes();
        methods(code);
        T.close();
    }

    private static String withoutTextsAndComments(String source) {
        return source.replaceAll("\"[^\"\\n]*\"", "\"\"").replaceAll("'(\\\\.|[^'])'", "'x'")
            .replaceAll("(?s)/\\*.*?\\*/", "").replaceAll("//[^\\n]*", "");
    }

    private static void words(String code) {
        for (String word : List.of("throw", "throws", "try", "catch", "finally", "synchronized", "assert", "package", "protected",
            "volatile", "transient", "native", "Object", "Random", "Thread", "hashCode")) {
            T.no("no " + word, Pattern.compile("\\b" + word + "\\b").matcher(code).find());
        }
        T.no("no lambda", Pattern.compile("(?m)^(?!\\s*(case\\b|default\\b)).*->").matcher(code).find());
        T.no("no method reference", code.contains("::"));
        T.no("no annotation", code.contains("@"));
        T.no("no endless loop", code.contains("while (true)") || code.contains("for (;;)"));
        T.no("no texts joined by +", Pattern.compile("\"\" \\+|\\+ \"\"").matcher(code).find());
        T.due("no sign above 127", code.chars().filter(c -> c > 127).count(), 0);
    }

    private static void library(String code) {
        Set<String> used = new TreeSet<>();
        Matcher m = Pattern.compile("\\b([A-Z][a-z]\\w*)\\.(\\w+)\\(").matcher(code);
        while (m.find()) {
            used.add(m.group(1) + "." + m.group(2));
        }
        Set<String> own = new HashSet<>();
        for (Class<?> c : UnbornBells.class.getDeclaredClasses()) {
            own.add(c.getSimpleName());
        }
        used.removeIf(call -> own.contains(call.substring(0, call.indexOf('.'))));
        used.removeIf(call -> call.matches("(Math|Integer|Long)\\.\\w+") && !call.endsWith("Exact"));
        used.removeAll(Set.of("Arrays.copyOf", "Arrays.copyOfRange", "Arrays.fill", "System.arraycopy", "List.of"));
        T.due("the library: " + used, used.size(), 0);
        m = Pattern.compile("(?m)^import (.*);$").matcher(code);
        while (m.find()) {
            T.yes("import " + m.group(1), m.group(1).matches("java\\.util\\.(Arrays|ArrayList|List|Iterator|\\*)"));
        }
    }

    private static void face() {
        Set<String> names = new HashSet<>(List.of(FACE.split(" ")));
        T.due("the document's methods", names.size(), 44);
        Set<String> found = new HashSet<>();
        for (Method method : UnbornBells.class.getDeclaredMethods()) {
            boolean isPublic = Modifier.isPublic(method.getModifiers());
            T.yes("public or private: " + method, isPublic || Modifier.isPrivate(method.getModifiers()) || method.isSynthetic());
            T.due("name of " + method, isPublic ? 1 : 0, names.contains(method.getName()) ? 1 : 0);
            if (isPublic) {
                T.yes("once: " + method, found.add(method.getName()));
            }
        }
        T.due("all of the face", found.size(), names.size());
        T.due("one constructor", UnbornBells.class.getDeclaredConstructors().length, 1);
        for (Field field : UnbornBells.class.getDeclaredFields()) {
            T.due("field " + field, Modifier.isPrivate(field.getModifiers()) ? 1 : 0, field.getName().equals("NONE") ? 0 : 1);
        }
        T.yes("final", Modifier.isFinal(UnbornBells.class.getModifiers()));
    }

    private static void classes() {
        Deque<Class<?>> todo = new ArrayDeque<>(List.of(UnbornBells.class));
        Set<String> names = new HashSet<>(List.of(FACE.split(" ")));
        int count = 0;
        while (!todo.isEmpty()) {
            Class<?> c = todo.pop();
            count++;
            todo.addAll(List.of(c.getDeclaredClasses()));
            int fields = 0;
            for (Field field : c.getDeclaredFields()) {
                if (!Modifier.isStatic(field.getModifiers())) {
                    fields++;
                } else {
                    T.yes("final: " + field, Modifier.isFinal(field.getModifiers()));
                    T.yes("a constant: " + field, CONSTANTS.contains(field.getType()) || field.isEnumConstant() || field.isSynthetic());
                }
            }
            T.yes("fields of " + c + ": " + fields, fields <= 20);
            if (c != UnbornBells.class) {
                T.yes("static: " + c, Modifier.isStatic(c.getModifiers()) && !Modifier.isPublic(c.getModifiers()));
                for (Method method : c.getDeclaredMethods()) {
                    T.no("name of " + method, names.contains(method.getName()));
                }
            }
        }
        T.yes("classes: " + count, count <= 12);
    }

    private static void methods(String code) {
        int count = 0;
        int start = 0;
        String name = null;
        String[] lines = code.split("\n");
        for (int i = 0; i < lines.length; i++) {
            Matcher m = METHOD.matcher(lines[i]);
            if (m.matches()) {
                name = m.group(3);
                start = i;
                count++;
                int parameters = m.group(4).isEmpty() ? 0 : m.group(4).split(",").length;
                T.yes("parameters of " + name + ": " + parameters, parameters <= 7);
            }
            if (name != null && lines[i].equals(lines[start].replaceAll("\\S.*", "") + "}")) {
                T.yes("lines of " + name + ": " + (i - start + 1), i - start + 1 <= 60);
                name = null;
            }
        }
        T.yes("methods seen: " + count, count >= 44);
    }
}
