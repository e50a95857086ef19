import java.io.File;
import java.lang.reflect.Method;
import java.lang.reflect.Modifier;
import java.nio.file.Files;
import java.nio.file.Path;
import java.util.regex.Matcher;
import java.util.regex.Pattern;

/** README.md: its example answers what it says there, and it names every call and every test. */
public final class ReadmeTest {
    private static final Pattern CALL = Pattern.compile("winder\\.(\\w+)\\(([-\\d, ]*)\\);\\s*// (-?\\d+)");

    public static void main(String[] args) throws Exception {
        String text = Files.readString(Path.of("README.md"));
        int begin = text.indexOf("```java");
        int end = text.indexOf("```", begin + 3);
        Due.is("there is an example", begin >= 0 && end > begin ? 1 : 0, 1);
        if (begin >= 0 && end > begin) {
            example(text.substring(begin, end));
        }
        calls(text);
        tests(text);
        Due.end();
    }

    private static void example(String code) throws Exception {
        ShaftWinder winder = new ShaftWinder();
        int told = 0;
        for (Matcher call = CALL.matcher(code); call.find(); told++) {
            Due.is(call.group(), answer(winder, call.group(1), call.group(2)), Long.parseLong(call.group(3)));
        }
        Due.is("every line of the example is a call", told, code.lines().filter(line -> line.contains("winder.")).count());
    }

    private static long answer(ShaftWinder winder, String name, String numbers) throws Exception {
        String[] parts = numbers.split(",");
        Class<?>[] types = new Class<?>[parts.length];
        Object[] values = new Object[parts.length];
        for (int n = 0; n < parts.length; n++) {
            types[n] = int.class;
            values[n] = Integer.valueOf(parts[n].trim());
        }
        return (int) ShaftWinder.class.getMethod(name, types).invoke(winder, values);
    }

    private static void calls(String text) {
        for (Method method : ShaftWinder.class.getDeclaredMethods()) {
            if (Modifier.isPublic(method.getModifiers())) {
                isNamed(text, method.getName());
            }
        }
    }

    private static void tests(String text) {
        for (String file : new File("src/test/java").list()) {
            if (file.endsWith("Test.java")) {
                isNamed(text, file.replace(".java", ""));
            }
        }
    }

    private static void isNamed(String text, String name) {
        Due.is(name + " is named", text.contains("`" + name + "`") ? 1 : 0, 1);
    }
}
