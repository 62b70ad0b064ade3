import java.io.IOException;
import java.lang.reflect.Constructor;
import java.lang.reflect.Field;
import java.lang.reflect.Method;
import java.lang.reflect.Modifier;
import java.nio.file.Files;
import java.nio.file.Path;
import java.util.ArrayList;
import java.util.Arrays;
import java.util.HashSet;
import java.util.List;
import java.util.Set;
import java.util.TreeSet;
import java.util.regex.Matcher;
import java.util.regex.Pattern;

/** The document's face, and those rules of LANGUAGE.md that can be seen from outside or in the words of the file. */
public final class LanguageTest {
    private static final Path SOURCE = Path.of("src/main/java/GuardFigures.java");
    private static final String FACE = "int row(int,int) int lay(int,int,int) int at(int,int) int tear(int) "
        + "int copy(int,int,int,int,int) int mean(int) int text(int,int) int put(int,int,int) int fault(int) "
        + "int house(int) int guard(int,int) int mark(int,int) int figure(int) int add(int) int drop() "
        + "int change(int,int) int swap(int) int undo(int) int keep(int) int on(int) int slips(int) int swaps(int) "
        + "int jumps(int) int best() int cover() int next(int,int) int near(int,int) int fills(int,int,int) "
        + "int kinds(int,int) int firsts(int,int) int test(int,int) int duel(int,int) int odds(int,int) "
        + "int mid(int,int) int lots(int,int) int asked() long upper() long lower() int count(int) int finding() "
        + "int findings(int) long digest()";
    private static final Pattern HEAD = Pattern.compile("^( {4}(?: {4})?)(?:[a-z]+ )*([A-Za-z]+)\\(.*\\) \\{$");
    private static final Set<String> BARRED = Set.of("throw", "throws", "try", "catch", "synchronized", "assert", "import",
        "package", "protected", "volatile", "native", "hashCode", "toString", "Random", "Thread", "Object");
    private static final Set<String> CALLED = Set.of("System.arraycopy", "Math.abs", "Math.max", "Math.min",
        "Integer.bitCount");

    private static List<Class<?>> all() {
        List<Class<?>> classes = new ArrayList<>(Arrays.asList(GuardFigures.class.getDeclaredClasses()));
        classes.add(GuardFigures.class);
        return classes;
    }

    private static void face() {
        Set<String> methods = new TreeSet<>();
        for (Method m : GuardFigures.class.getDeclaredMethods()) {
            if (Modifier.isPublic(m.getModifiers())) {
                StringBuilder told = new StringBuilder(m.getReturnType() + " " + m.getName() + "(");
                for (Class<?> type : m.getParameterTypes()) {
                    told.append(told.charAt(told.length() - 1) == '(' ? "" : ",").append(type);
                }
                methods.add(told.append(')').toString());
            } else {
                holds("private: " + m.getName(), Modifier.isPrivate(m.getModifiers()));
            }
        }
        Set<String> due = new TreeSet<>(Arrays.asList(FACE.split(" (?=int |long )")));
        holds("the face is " + methods, methods.equals(due));
        Constructor<?>[] made = GuardFigures.class.getDeclaredConstructors();
        holds("one public constructor", made.length == 1 && Modifier.isPublic(made[0].getModifiers())
            && made[0].getParameterCount() == 0);
        holds("public and final", GuardFigures.class.getModifiers() == (Modifier.PUBLIC | Modifier.FINAL));
        int constants = 0;
        for (Field f : GuardFigures.class.getDeclaredFields()) {
            boolean open = Modifier.isPublic(f.getModifiers());
            constants += open ? 1 : 0;
            holds("private: " + f.getName(), open || Modifier.isPrivate(f.getModifiers()));
        }
        Due.is("public constants", constants, 6);
    }

    private static void classes() {
        holds("at most twelve classes", all().size() <= 12);
        Set<String> open = new HashSet<>();
        for (Method m : GuardFigures.class.getDeclaredMethods()) {
            if (Modifier.isPublic(m.getModifiers())) {
                open.add(m.getName());
            }
        }
        for (Class<?> c : all()) {
            holds("static: " + c, c == GuardFigures.class || Modifier.isStatic(c.getModifiers()));
            int fields = 0;
            for (Field f : c.getDeclaredFields()) {
                boolean fixed = Modifier.isStatic(f.getModifiers());
                holds("static fields are final: " + f, !fixed || Modifier.isFinal(f.getModifiers()));
                fields += fixed ? 0 : 1;
            }
            holds("at most twenty fields: " + c, fields <= 20);
            for (Method m : c.getDeclaredMethods()) {
                boolean again = c != GuardFigures.class || !Modifier.isPublic(m.getModifiers());
                holds("no public name again: " + m, !again || !open.contains(m.getName()));
                holds("at most seven parameters: " + m, m.getParameterCount() <= 7);
            }
        }
    }

    private static void words() throws IOException {
        String source = Files.readString(SOURCE);
        String code = source.replaceAll("(?s)/\\*.*?\\*/", " ").replaceAll("//[^\n]*", " ");
        for (String word : code.split("[^A-Za-z_0-9]+")) {
            holds("a word that is barred: " + word, !BARRED.contains(word));
        }
        holds("no lambda, no method reference", !code.contains("->") && !code.contains("::"));
        Matcher library = Pattern.compile("\\b(System|Math|Integer|Long|Arrays|String)\\.[A-Za-z]+").matcher(code);
        while (library.find()) {
            holds("the library: " + library.group(), CALLED.contains(library.group()));
        }
    }

    private static void lengths() throws IOException {
        int line = 0;
        int start = 0;
        String end = null;
        for (String text : Files.readAllLines(SOURCE)) {
            line++;
            Matcher head = HEAD.matcher(text);
            if (head.find()) {
                start = line;
                end = head.group(1) + "}";
            }
            if (text.equals(end)) {
                holds("at most sixty lines, from line " + start, line - start < 60);
            }
        }
        holds("methods were seen", start > 0);
    }

    /** What is made is made with the object: calls make nothing, however many there are. */
    private static void room() throws IOException {
        String name = null;
        for (String line : Files.readAllLines(SOURCE)) {
            Matcher head = HEAD.matcher(line);
            if (head.find()) {
                name = head.group(2);
            }
            boolean constructor = name != null && Character.isUpperCase(name.charAt(0));
            holds("made in a call: " + line, constructor || !line.matches(".*\\bnew\\b [A-Za-z]+[\\[(].*"));
        }
    }

    private static void holds(String what, boolean does) {
        Due.is(what, does ? 1 : 0, 1);
    }

    public static void main(String[] args) throws IOException {
        face();
        classes();
        words();
        lengths();
        room();
        Due.end();
    }
}
