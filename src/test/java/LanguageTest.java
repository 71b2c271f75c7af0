import java.io.IOException;
import java.lang.reflect.Field;
import java.lang.reflect.Method;
import java.lang.reflect.Modifier;
import java.nio.file.Files;
import java.nio.file.Path;
import java.util.ArrayList;
import java.util.List;
import java.util.Set;
import java.util.TreeSet;
import java.util.regex.Matcher;
import java.util.regex.Pattern;

/** The rules of ../shared/LANGUAGE.md, as far as the file's text and its classes can tell. */
public final class LanguageTest {
    private static final String FILE = "src/main/java/MarbleBoard.java";
    /** What rule 4 leaves of the library and the program uses. */
    private static final Set<String> LIBRARY = Set.of("Arrays.fill", "Math.min");
    private static final Set<Class<?>> CONSTANTS = Set.of(int.class, long.class, boolean.class, char.class, String.class);

    public static void main(String[] args) throws IOException {
        String text = withoutComments(Files.readString(Path.of(FILE)));
        importsArraysAlone(text);
        hasNoForbiddenWords(text);
        throwsByRule(text);
        makesNothingInCalls(text);
        usesLittleOfTheLibrary(text);
        methodsAreShort(text);
        List<Class<?>> classes = new ArrayList<>(List.of(MarbleBoard.class.getDeclaredClasses()));
        classes.add(MarbleBoard.class);
        Check.same("at most twelve classes", classes.size() <= 12, true);
        for (Class<?> one : classes) {
            fieldsAreByRule(one);
            methodsAreByRule(one);
        }
        Check.end();
    }

    private static String withoutComments(String text) {
        return text.replaceAll("(?s)/\\*.*?\\*/", "").replaceAll("(?m)^\\s*//.*$", "");
    }

    private static void importsArraysAlone(String text) {
        Check.same("no package", text.startsWith("import java.util.Arrays;\n"), true);
        Check.same("imports", all(text, "(?m)^import .*").size(), 1);
    }

    private static List<String> all(String text, String pattern) {
        List<String> all = new ArrayList<>();
        Matcher matcher = Pattern.compile(pattern).matcher(text);
        while (matcher.find()) {
            all.add(matcher.group());
        }
        return all;
    }

    /** Rules 2, 3, 6, 10 and 13. */
    private static void hasNoForbiddenWords(String text) {
        String[] words = {"->", "::", "\\bfinally\\b", "\\bassert\\b", "\\bsynchronized\\b", "\\bcatch\\b", "\\btry\\b",
            "\\bstatic \\{", "\\bvar\\b", "\\binstanceof\\b", "\\bSystem\\b", "\\bThread\\b", "\\bRandom\\b", "\\bfloat\\b",
            "\\bdouble\\b", "Exact\\b", "\\bwhile\\b", "\" \\+", "\\+ \""};
        for (String word : words) {
            Check.same("how often there is " + word, all(text, word).size(), 0);
        }
    }

    private static void throwsByRule(String text) {
        Set<String> thrown = new TreeSet<>(all(text, "throw new [^;]*;"));
        Set<String> due = Set.of("throw new IllegalStateException();", "throw new IllegalArgumentException();");
        Check.same("what is thrown: " + thrown, thrown.equals(due), true);
    }

    /** Rule 12: all arrays and objects are made with the board, in fields and constructors, so that calls need no room. */
    private static void makesNothingInCalls(String text) {
        for (String line : all(text, "(?m)^.*\\bnew \\w.*$")) {
            boolean isFine = line.contains("throw new") || line.startsWith("    private final ")
                || line.startsWith("        private final ") || line.contains("this.crowd = new Crowd(");
            Check.same("made with the board:" + line, isFine, true);
        }
    }

    private static void usesLittleOfTheLibrary(String text) {
        Set<String> used = new TreeSet<>(all(text, "\\b(Arrays|Math|Integer|Long|String|Character)\\.\\w+"));
        used.removeAll(LIBRARY);
        Check.same("nothing else of the library: " + used, used.size(), 0);
    }

    /** Rule 11: "Methods stay short (some sixty lines)". */
    private static void methodsAreShort(String text) {
        List<String> bodies = all(text, "(?ms)^( +)[\\w ]+ ?\\w+\\([^)]*\\)( throws [\\w, ]+)? \\{$.*?^\\1\\}$");
        Check.same("they are found", bodies.size() > 80, true);
        for (String body : bodies) {
            Check.same("lines of " + body.lines().findFirst().orElse(""), body.lines().count() <= 40, true);
        }
    }

    /** Rules 5 and 11. */
    private static void fieldsAreByRule(Class<?> one) {
        int own = 0;
        for (Field field : one.getDeclaredFields()) {
            boolean isStatic = Modifier.isStatic(field.getModifiers());
            own += isStatic ? 0 : 1;
            boolean isFine = !isStatic || Modifier.isFinal(field.getModifiers()) && CONSTANTS.contains(field.getType());
            Check.same("a field by rule 5: " + field, isFine, true);
        }
        Check.same("at most twenty fields: " + one, own <= 20, true);
    }

    /** Rules 1 and 11. */
    private static void methodsAreByRule(Class<?> one) {
        Set<String> face = new TreeSet<>();
        for (Method method : MarbleBoard.class.getDeclaredMethods()) {
            if (Modifier.isPublic(method.getModifiers())) {
                face.add(method.getName());
            }
        }
        for (Method method : one.getDeclaredMethods()) {
            boolean isPrivate = Modifier.isPrivate(method.getModifiers());
            Check.same("no private one with a public name: " + method, isPrivate && face.contains(method.getName()), false);
            Check.same("at most seven parameters: " + method, method.getParameterCount() <= 7, true);
        }
    }
}
