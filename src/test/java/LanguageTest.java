import java.io.IOException;
import java.lang.reflect.Constructor;
import java.lang.reflect.Field;
import java.lang.reflect.Method;
import java.lang.reflect.Modifier;
import java.nio.file.Files;
import java.nio.file.Path;
import java.util.Arrays;
import java.util.TreeSet;
import java.util.regex.Matcher;
import java.util.regex.Pattern;

/** The face of the class, and those rules of LANGUAGE.md that can be seen from outside. */
public final class LanguageTest {
    private static final String[] FACE = {
        "int pin(int, int, int) throws IndexOutOfBoundsException, IllegalStateException",
        "int pull(int, int, int, int) throws IndexOutOfBoundsException, IllegalArgumentException",
        "int copy(int, int, int, int) throws IndexOutOfBoundsException, IllegalArgumentException",
        "int wind(int) throws IllegalArgumentException",
        "int vanes(int) throws IllegalArgumentException",
        "int shift(int) throws IndexOutOfBoundsException",
        "int play(int) throws IllegalArgumentException",
        "int mend(int) throws IndexOutOfBoundsException",
        "int set(int, int) throws IndexOutOfBoundsException, IllegalArgumentException",
        "int append(int) throws IllegalArgumentException, IllegalStateException",
        "int clearBuffer()",
        "int firstError()",
        "int pins() throws IllegalArgumentException",
        "int undo() throws IllegalStateException",
        "int keep()",
        "int restore() throws IllegalStateException",
        "int whyNot(int, int, int) throws IndexOutOfBoundsException",
        "int next(int, int, int) throws IndexOutOfBoundsException",
        "int tune(int, int) throws IndexOutOfBoundsException, IllegalArgumentException",
        "int chord(int, int) throws IndexOutOfBoundsException",
        "int tooth(int, int) throws IndexOutOfBoundsException, IllegalArgumentException",
        "int note(int, int) throws IllegalArgumentException",
        "int count(int) throws IllegalArgumentException",
        "int ifPlayed(int, int) throws IllegalArgumentException",
        "int fewestVanes()",
        "int windFor(int) throws IllegalArgumentException",
        "double clean()",
        "long digest()"};

    private LanguageTest() {
    }

    public static void main(String[] args) throws IOException {
        face();
        nothingElseIsOpen();
        classes();
        source();
        Check.end();
    }

    private static String shown(Method method) {
        StringBuilder text = new StringBuilder();
        text.append(method.getReturnType().getSimpleName()).append(' ').append(method.getName()).append('(');
        text.append(names(method.getParameterTypes())).append(')');
        if (method.getExceptionTypes().length > 0) {
            text.append(" throws ").append(names(method.getExceptionTypes()));
        }
        return text.toString();
    }

    private static String names(Class<?>[] types) {
        StringBuilder text = new StringBuilder();
        for (Class<?> type : types) {
            text.append(text.length() > 0 ? ", " : "").append(type.getSimpleName());
        }
        return text.toString();
    }

    private static void face() {
        TreeSet<String> due = new TreeSet<>(Arrays.asList(FACE));
        TreeSet<String> open = new TreeSet<>();
        for (Method method : PinCylinder.class.getDeclaredMethods()) {
            if (Modifier.isPublic(method.getModifiers())) {
                open.add(shown(method));
            }
        }
        if (!open.equals(due)) {
            Check.fail("the face is " + open + ", due is " + due);
        }
        Check.due("a final class", 1, Modifier.isFinal(PinCylinder.class.getModifiers()) ? 1 : 0);
        Constructor<?>[] constructors = PinCylinder.class.getDeclaredConstructors();
        Check.due("constructors", 1, constructors.length);
        Check.due("public", 1, Modifier.isPublic(constructors[0].getModifiers()) ? 1 : 0);
    }

    private static void nothingElseIsOpen() {
        for (Method method : PinCylinder.class.getDeclaredMethods()) {
            int m = method.getModifiers();
            if (!Modifier.isPublic(m) && !Modifier.isPrivate(m)) {
                Check.fail(method + " is open");
            }
        }
        for (Field field : PinCylinder.class.getDeclaredFields()) {
            int m = field.getModifiers();
            boolean none = field.getName().equals("NONE") && Modifier.isPublic(m);
            if (!none && !Modifier.isPrivate(m)) {
                Check.fail(field + " is open");
            }
        }
    }

    private static void classes() {
        Class<?>[] inside = PinCylinder.class.getDeclaredClasses();
        Check.due("at most twelve classes", 1, inside.length <= 11 ? 1 : 0);
        TreeSet<String> open = new TreeSet<>();
        for (String line : FACE) {
            open.add(line.substring(line.indexOf(' ') + 1, line.indexOf('(')));
        }
        for (Class<?> c : inside) {
            Check.due(c + " is static", 1, Modifier.isStatic(c.getModifiers()) ? 1 : 0);
            for (Method method : c.getDeclaredMethods()) {
                if (open.contains(method.getName())) {
                    Check.fail(method + " bears the name of a public one");
                }
            }
        }
        check(PinCylinder.class);
        for (Class<?> c : inside) {
            check(c);
        }
    }

    private static void check(Class<?> c) {
        int fields = 0;
        for (Field field : c.getDeclaredFields()) {
            int m = field.getModifiers();
            if (!Modifier.isStatic(m)) {
                fields++;
            } else if (!Modifier.isFinal(m) || field.getType() == double.class) {
                Check.fail(field + " is no static constant of the language");
            }
        }
        Check.due("at most twenty fields in " + c, 1, fields <= 20 ? 1 : 0);
        for (Method method : c.getDeclaredMethods()) {
            Check.due("at most seven parameters of " + method, 1, method.getParameterCount() <= 7 ? 1 : 0);
        }
    }

    private static void source() throws IOException {
        String text = Files.readString(Path.of("src/main/java/PinCylinder.java"));
        for (char sign : text.toCharArray()) {
            if (sign > 126) {
                Check.fail("the source has the sign " + (int) sign);
            }
        }
        String code = text.replaceAll("(?s)/\\*.*?\\*/", "").replaceAll("//.*", "").replaceAll("\"[^\"]*\"", "\"\"");
        String[] ruledOut = {"\\bimport\\b", "\\bpackage\\b", "\\bcatch\\b", "\\btry\\b", "\\bfinally\\b",
            "\\bassert\\b", "\\bsynchronized\\b", "->", "::", "Double\\.", "Exact\\b", "\\bObject\\b", "toString",
            "hashCode", "equals", "\\bvar\\b", "\\byield\\b", "Random", "\\bThread\\b", "System\\.(?!arraycopy)"};
        for (String wrong : ruledOut) {
            Matcher matcher = Pattern.compile(wrong).matcher(code);
            if (matcher.find()) {
                Check.fail("the source has " + matcher.group());
            }
        }
        madeInConstructorsAlone(code);
        shortMethods(text);
    }

    /** Rows are made once, with the object: so no run fills the room. */
    private static void madeInConstructorsAlone(String code) {
        Matcher matcher = Pattern.compile("(?m)^(.*)\\bnew (\\w+)").matcher(code);
        while (matcher.find()) {
            String before = matcher.group(1);
            boolean thrown = before.endsWith("throw ");
            boolean field = before.contains("private final");
            boolean row = before.trim().equals("saved[i] =");
            if (!thrown && !field && !row) {
                Check.fail("a " + matcher.group(2) + " is made behind " + before);
            }
        }
    }

    private static void shortMethods(String text) {
        int length = 0;
        for (String line : text.split("\n")) {
            boolean begins = line.matches("( {4}| {8})(public|private|static|int|void|boolean|long|double)\\b.*");
            length = begins ? 1 : length + 1;
            if (length == 61 && line.startsWith("     ")) {
                Check.fail("a method has more than 60 lines at " + line);
            }
        }
    }
}
