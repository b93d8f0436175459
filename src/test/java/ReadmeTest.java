import java.io.File;
import java.io.IOException;
import java.lang.reflect.Method;
import java.lang.reflect.Modifier;
import java.nio.file.Files;
import java.nio.file.Path;
import java.util.regex.Matcher;
import java.util.regex.Pattern;

/** What README.md tells: the answers of its example, each call of the face, and each test. */
public final class ReadmeTest {
    private static final Pattern WRITTEN =
        Pattern.compile("for \\(char \\w+ : \"([^\"]+)\"\\.toCharArray\\(\\)\\) \\{");
    private static final Pattern CALL =
        Pattern.compile("x\\.(\\w+)\\(([-0-9, ]*)\\);\\s*// (-?[0-9]+(?:\\.[0-9]+)?): .*");

    private ReadmeTest() {
    }

    public static void main(String[] args) throws IOException, ReflectiveOperationException {
        String readme = Files.readString(Path.of("README.md"));
        example(readme);
        callsAreTold(readme);
        testsAreTold(readme);
        Check.end();
    }

    private static void example(String readme) throws ReflectiveOperationException {
        int start = readme.indexOf("```java\n");
        String[] lines = readme.substring(start + 8, readme.indexOf("```", start + 8)).split("\n");
        PinCylinder x = new PinCylinder();
        int called = 0;
        for (String line : lines) {
            Matcher written = WRITTEN.matcher(line);
            Matcher call = CALL.matcher(line);
            if (written.matches()) {
                Check.write(x, written.group(1));
            } else if (call.matches()) {
                called++;
                answer(x, call.group(1), call.group(2), call.group(3));
            } else if (line.contains("//")) {
                Check.fail("README.md tells no answer in " + line);
            }
        }
        Check.due("calls of the example", 1, called >= 10 ? 1 : 0);
    }

    private static void answer(PinCylinder x, String name, String arguments, String due)
            throws ReflectiveOperationException {
        String[] texts = arguments.isEmpty() ? new String[0] : arguments.split(", ");
        Class<?>[] types = new Class<?>[texts.length];
        Object[] values = new Object[texts.length];
        for (int i = 0; i < texts.length; i++) {
            types[i] = int.class;
            values[i] = Integer.valueOf(texts[i]);
        }
        String got = String.valueOf(PinCylinder.class.getMethod(name, types).invoke(x, values));
        if (!got.equals(due)) {
            Check.fail("README.md has " + due + " for " + name + "(" + arguments + "), which answers " + got);
        }
    }

    private static void callsAreTold(String readme) {
        for (Method method : PinCylinder.class.getDeclaredMethods()) {
            if (Modifier.isPublic(method.getModifiers()) && !readme.contains("`" + method.getName() + "`")) {
                Check.fail("README.md leaves out the call " + method.getName());
            }
        }
    }

    private static void testsAreTold(String readme) {
        for (String file : new File("src/test/java").list()) {
            if (file.endsWith("Test.java") && !readme.contains("`" + file.replace(".java", "") + "`")) {
                Check.fail("README.md leaves out the test " + file);
            }
        }
        Check.due("how to run the tests", 1, readme.contains(".ci/run") ? 1 : 0);
    }
}
