import java.lang.reflect.Constructor;
import java.lang.reflect.Field;
import java.lang.reflect.Method;
import java.lang.reflect.Modifier;
import java.nio.file.Files;
import java.nio.file.Path;
import java.util.Arrays;
import java.util.TreeSet;
import java.util.regex.Matcher;
import java.util.regex.Pattern;
import java.util.stream.Collectors;

/** The face is the document's: its lines of methods and constants, and no other open member. */
public final class FaceTest {
    public static void main(String[] args) throws Exception {
        members();
        constants();
        asInTheDocument();
        rules();
        Check.end();
    }

    private static void members() {
        Class<?> face = TicketGate.class;
        Check.same("public and final", face.getModifiers(), Modifier.PUBLIC | Modifier.FINAL);
        int open = 0;
        TreeSet<String> names = new TreeSet<>();
        for (Method method : face.getDeclaredMethods()) {
            boolean hidden = Modifier.isPrivate(method.getModifiers());
            Check.same("public or private: " + method, hidden || Modifier.isPublic(method.getModifiers()), true);
            Check.same("not static: " + method, Modifier.isStatic(method.getModifiers()), false);
            if (!hidden) {
                open++;
                Check.same("first of its name: " + method, names.add(method.getName()), true);
            }
        }
        Check.same("public methods", open, 64);
        for (Method method : face.getDeclaredMethods()) {
            boolean hidden = Modifier.isPrivate(method.getModifiers());
            Check.same("name of its own: " + method, hidden && names.contains(method.getName()), false);
        }
        Constructor<?>[] makers = face.getDeclaredConstructors();
        Check.same("constructors", makers.length, 1);
        Check.same("public constructor", makers[0].getModifiers(), Modifier.PUBLIC);
        Check.same("constructor's arguments", makers[0].getParameterCount(), 0);
        int shown = 0;
        for (Field field : face.getDeclaredFields()) {
            shown += Modifier.isPrivate(field.getModifiers()) ? 0 : 1;
        }
        Check.same("open fields", shown, 3);
        Check.same("at most twelve classes", face.getDeclaredClasses().length < 12, true);
        for (Class<?> inside : face.getDeclaredClasses()) {
            Check.same("static: " + inside, Modifier.isStatic(inside.getModifiers()), true);
            Check.same("not public: " + inside, Modifier.isPublic(inside.getModifiers()), false);
        }
    }

    private static void constants() {
        Check.same("NONE", TicketGate.NONE, -1);
        Check.same("FOR_REALM", TicketGate.FOR_REALM, 0);
        Check.same("FOR_SERVICE", TicketGate.FOR_SERVICE, 1);
    }

    /** Each line of "The public face" names its answer, name, arguments and throws clause. */
    private static void asInTheDocument() throws Exception {
        TreeSet<String> due = new TreeSet<>();
        Pattern line = Pattern.compile("    public (\\w+) (\\w+)\\((.*)\\)( throws .*)?;");
        for (String text : Files.readAllLines(Path.of("../shared/DOC.md"))) {
            Matcher found = line.matcher(text);
            if (found.matches()) {
                String takes = found.group(3).replaceAll(" \\w+(, |$)", "$1");
                String clause = found.group(4) == null ? "" : found.group(4).substring(" throws ".length());
                due.add(found.group(1) + " " + found.group(2) + "(" + takes + ") " + clause);
            }
        }
        TreeSet<String> got = new TreeSet<>();
        for (Method method : TicketGate.class.getDeclaredMethods()) {
            if (Modifier.isPublic(method.getModifiers())) {
                got.add(method.getReturnType() + " " + method.getName() + "(" + names(method.getParameterTypes()) + ") "
                        + names(method.getExceptionTypes()));
            }
        }
        Check.same("the face", got, due);
    }

    private static String names(Class<?>[] types) {
        return Arrays.stream(types).map(Class::getSimpleName).collect(Collectors.joining(", "));
    }

    /** Some of LANGUAGE.md that a look at the text can tell. */
    private static void rules() throws Exception {
        String text = Files.readString(Path.of("src/main/java/TicketGate.java"));
        for (String word : Arrays.asList("synchronized", "assert ", "finally", "try ", "->", "::", "System.out", "\nimport static", "Exact(")) {
            Check.same("free of " + word.trim(), text.contains(word), false);
        }
        int imports = text.split("\nimport ", -1).length - 1 + (text.startsWith("import ") ? 1 : 0);
        Check.same("one import", imports, 1);
        Check.same("signs 1 to 127", text.chars().allMatch(c -> c >= 1 && c <= 127), true);
    }
}
