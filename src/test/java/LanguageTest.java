import java.lang.reflect.Constructor;
import java.lang.reflect.Field;
import java.lang.reflect.Member;
import java.lang.reflect.Method;
import java.lang.reflect.Modifier;
import java.nio.file.Files;
import java.nio.file.Path;
import java.util.ArrayList;
import java.util.List;
import java.util.TreeSet;
import java.util.regex.Matcher;
import java.util.regex.Pattern;

/** Those rules of LANGUAGE.md that can be seen from the text of the program and from its class. */
public final class LanguageTest {
    private static final String FACE = "shaft zone stop most ticks speed ring link error guard begin pass state loads ratio"
        + " slips slipAt hold broken worst worstAt cut mend shift both log sheet lose put get copy read write plan check digest";

    public static void main(String[] args) throws Exception {
        String code = Files.readString(Path.of("src/main/java/ShaftWinder.java"))
            .replaceAll("(?s)/\\*.*?\\*/", "").replaceAll("//[^\n]*", "");
        words(code);
        library(code);
        face();
        nested();
        Due.end();
    }

    private static void words(String code) {
        String[] never = {"throw", "throws", "try", "catch", "finally", "synchronized", "assert", "package", "protected",
            "native", "volatile", "transient", "hashCode", "toString", "equals", "Object", "var", "yield"};
        for (String word : never) {
            Due.is("rule 6: " + word, count(code, "\\b" + word + "\\b"), 0);
        }
        Due.is("rule 4: no function whose name ends in Exact", count(code, "\\w+Exact\\b"), 0);
        Due.is("rule 2: no lambda, no method reference", count(code, "->|::"), 0);
        Due.is("rule 1: one public class", count(code, "\\bpublic\\s+(final\\s+)?class\\b"), 1);
    }

    private static void library(String code) {
        Due.is("rule 4: imports", count(code, "\\bimport\\b"), count(code, "\\bimport java\\.util\\.(Arrays|ArrayList|List);"));
        Matcher call = Pattern.compile("\\b(Math|Integer|Long|System|Arrays)\\.(\\w+)").matcher(code);
        String allowed = " Math.min Math.max Math.abs Math.floorMod Math.floorDiv System.arraycopy Arrays.fill ";
        while (call.find()) {
            Due.is("rule 4: " + call.group(), allowed.contains(" " + call.group() + " ") ? 1 : 0, 1);
        }
    }

    private static int count(String code, String pattern) {
        int n = 0;
        for (Matcher m = Pattern.compile(pattern).matcher(code); m.find();) {
            n++;
        }
        return n;
    }

    private static void face() {
        TreeSet<String> due = new TreeSet<>(List.of(FACE.split(" ")));
        List<Member> members = new ArrayList<>();
        members.addAll(List.of(ShaftWinder.class.getDeclaredMethods()));
        for (Member method : members) {
            boolean open = Modifier.isPublic(method.getModifiers());
            Due.is("rule 1: " + method.getName(), due.contains(method.getName()) ? 1 : 0, open ? 1 : 0);
            Due.is("rule 1: private " + method.getName(), open || Modifier.isPrivate(method.getModifiers()) ? 1 : 0, 1);
        }
        Due.is("rule 1: methods", members.stream().filter(m -> Modifier.isPublic(m.getModifiers())).count(), due.size());
        TreeSet<String> constants = new TreeSet<>(List.of("NONE", "BAD", "FULL", "NOT"));
        for (Field field : ShaftWinder.class.getDeclaredFields()) {
            boolean open = constants.contains(field.getName());
            Due.is("rule 1: " + field.getName(), Modifier.isPublic(field.getModifiers()) ? 1 : 0, open ? 1 : 0);
            Due.is("rule 1: private " + field.getName(), open || Modifier.isPrivate(field.getModifiers()) ? 1 : 0, 1);
        }
        Constructor<?>[] constructors = ShaftWinder.class.getDeclaredConstructors();
        Due.is("rule 1: constructors", constructors.length, 1);
        Due.is("rule 1: final", Modifier.isFinal(ShaftWinder.class.getModifiers()) ? 1 : 0, 1);
    }

    private static void nested() {
        Class<?>[] classes = ShaftWinder.class.getDeclaredClasses();
        Due.is("rule 11: classes", classes.length + 1 <= 12 ? 1 : 0, 1);
        TreeSet<String> face = new TreeSet<>(List.of(FACE.split(" ")));
        for (Class<?> c : classes) {
            Due.is("rule 2: static " + c.getName(), Modifier.isStatic(c.getModifiers()) ? 1 : 0, 1);
            int fields = 0;
            for (Field field : c.getDeclaredFields()) {
                boolean fixed = Modifier.isStatic(field.getModifiers());
                fields += fixed ? 0 : 1;
                Due.is("rule 5: " + field, !fixed || Modifier.isFinal(field.getModifiers()) ? 1 : 0, 1);
            }
            Due.is("rule 11: fields of " + c.getName(), fields <= 20 ? 1 : 0, 1);
            for (Method method : c.getDeclaredMethods()) {
                Due.is("rule 1: " + method, face.contains(method.getName()) ? 1 : 0, 0);
                Due.is("rule 11: " + method, method.getParameterCount() <= 7 ? 1 : 0, 1);
            }
        }
    }
}
