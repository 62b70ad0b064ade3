import java.io.IOException;
import java.lang.reflect.Field;
import java.lang.reflect.Method;
import java.lang.reflect.Modifier;
import java.nio.file.Files;
import java.nio.file.Path;
import java.util.regex.Matcher;
import java.util.regex.Pattern;

/** README.md: the example's calls answer what stands behind them, and no call, constant or test is left out. */
public final class ReadmeTest {
    private static final Path README = Path.of("README.md");
    private static final Pattern CALL = Pattern.compile("^x\\.([a-z]+)\\(([^;]*)\\); +// (-?\\d+):.*$");
    private static final Pattern HOUSE = Pattern.compile("String house = \"([^\"]*)\";");

    private static String block(String readme) {
        int start = readme.indexOf("```java\n");
        int end = start < 0 ? -1 : readme.indexOf("\n```", start);
        Due.is("README.md has an example", end < 0 ? 0 : 1, 1);
        return end < 0 ? "" : readme.substring(start, end);
    }

    private static Method called(String name) {
        for (Method m : GuardFigures.class.getDeclaredMethods()) {
            if (Modifier.isPublic(m.getModifiers()) && m.getName().equals(name)) {
                return m;
            }
        }
        return null;
    }

    private static Object[] arguments(String words, String house) {
        if (words.isEmpty()) {
            return new Object[0];
        }
        String[] parts = words.split(", ");
        Object[] arguments = new Object[parts.length];
        for (int i = 0; i < parts.length; i++) {
            arguments[i] = parts[i].equals("house.length()") ? house.length() : Integer.parseInt(parts[i]);
        }
        return arguments;
    }

    private static void example(String block) throws ReflectiveOperationException {
        Matcher text = HOUSE.matcher(block);
        String house = text.find() ? text.group(1) : "";
        GuardFigures x = new GuardFigures();
        int calls = 0;
        for (String line : block.split("\n")) {
            Matcher call = CALL.matcher(line);
            if (call.matches()) {
                Method method = called(call.group(1));
                Due.is("there is a call " + call.group(1), method == null ? 0 : 1, 1);
                if (method != null) {
                    Object[] arguments = arguments(call.group(2), house);
                    Number got = (Number) method.invoke(x, arguments);
                    Due.is("README.md: " + line, got.longValue(), Long.parseLong(call.group(3)));
                    calls++;
                }
            } else if (line.contains("x.put(0, i, house.charAt(i))")) {
                for (int i = 0; i < house.length(); i++) {
                    x.put(0, i, house.charAt(i));
                }
            } else {
                Due.is("README.md: a call without its answer: " + line, line.startsWith("x.") ? 1 : 0, 0);
            }
        }
        Due.is("README.md's example has calls", calls > 0 ? 1 : 0, 1);
    }

    private static void named(String readme) throws IOException, IllegalAccessException {
        for (Method m : GuardFigures.class.getDeclaredMethods()) {
            if (Modifier.isPublic(m.getModifiers())) {
                names(readme, "`" + m.getName() + "`");
            }
        }
        for (Field f : GuardFigures.class.getDeclaredFields()) {
            if (Modifier.isPublic(f.getModifiers())) {
                names(readme, "`" + f.getName() + "` " + f.getInt(null) + " ");
            }
        }
        try (var files = Files.list(Path.of("src/test/java"))) {
            for (Path file : (Iterable<Path>) files::iterator) {
                String name = file.getFileName().toString();
                if (name.endsWith("Test.java") && !name.startsWith("EdgesOf")) {
                    names(readme, "`" + name.substring(0, name.length() - 5) + "`");
                }
            }
        }
    }

    private static void names(String readme, String what) {
        Due.is("README.md names " + what, readme.contains(what) ? 1 : 0, 1);
    }

    public static void main(String[] args) throws IOException, ReflectiveOperationException {
        String readme = Files.readString(README);
        example(block(readme));
        named(readme);
        Due.end();
    }
}
