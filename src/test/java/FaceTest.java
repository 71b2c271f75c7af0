import java.lang.reflect.Constructor;
import java.lang.reflect.Field;
import java.lang.reflect.Method;
import java.lang.reflect.Modifier;
import java.util.Set;
import java.util.TreeSet;

/** The public face: what the document names, and nothing else. */
public final class FaceTest {
    private static final String[] FACE = {
        "board(int, int) throws IllegalArgumentException : void",
        "row(int, long, long) throws IllegalArgumentException : void",
        "cell(int, int, char) throws IllegalArgumentException : void",
        "pattern(int, int, int, int) throws IllegalArgumentException : void",
        "inlet(int, int) throws IllegalArgumentException : void",
        "freeze() throws IllegalStateException : int",
        "hole() : int",
        "look(int, int) throws IllegalArgumentException : char",
        "value(int, int) throws IllegalArgumentException : int",
        "turn(int, int, int) throws IllegalArgumentException : int",
        "drop(int) throws IllegalStateException, IllegalArgumentException : int",
        "undo() throws IllegalStateException : boolean",
        "count(int) throws IllegalArgumentException : int",
        "roll(int) throws IllegalStateException, IllegalArgumentException : boolean",
        "tick(int) throws IllegalStateException, IllegalArgumentException : int",
        "marbles(int) throws IllegalArgumentException : int",
        "explore(int) throws IllegalStateException, IllegalArgumentException : int",
        "canReach(int, int) throws IllegalStateException, IllegalArgumentException : int",
        "jam(int) throws IllegalStateException, IllegalArgumentException : int",
        "counter(int) throws IllegalArgumentException : void",
        "tell(int, int) throws IllegalArgumentException : void",
        "table(int) throws IllegalArgumentException : void",
        "input(int, int) throws IllegalStateException, IllegalArgumentException : void",
    };

    public static void main(String[] args) {
        classIsPublicAndFinal();
        methodsAreTheDocuments();
        membersArePrivateOtherwise();
        classesInsideAreStatic();
        Check.end();
    }

    private static void classIsPublicAndFinal() {
        int modifiers = MarbleBoard.class.getModifiers();
        Check.same("public", Modifier.isPublic(modifiers), true);
        Check.same("final", Modifier.isFinal(modifiers), true);
        Constructor<?>[] constructors = MarbleBoard.class.getDeclaredConstructors();
        Check.same("constructors", constructors.length, 1);
        Check.same("its parameters", constructors[0].getParameterCount(), 0);
        Check.same("it is public", Modifier.isPublic(constructors[0].getModifiers()), true);
    }

    private static void methodsAreTheDocuments() {
        Set<String> due = new TreeSet<>(Set.of(FACE));
        Set<String> got = new TreeSet<>();
        for (Method method : MarbleBoard.class.getDeclaredMethods()) {
            if (!Modifier.isPrivate(method.getModifiers())) {
                got.add(told(method));
            }
        }
        Check.same("methods", String.join("\n", got), String.join("\n", due));
    }

    private static String told(Method method) {
        return method.getName() + names("(", method.getParameterTypes(), ")")
            + (method.getExceptionTypes().length == 0 ? "" : names(" throws ", method.getExceptionTypes(), ""))
            + " : " + method.getReturnType().getSimpleName();
    }

    private static String names(String before, Class<?>[] types, String behind) {
        StringBuilder text = new StringBuilder();
        for (Class<?> type : types) {
            text.append(text.length() == 0 ? "" : ", ").append(type.getSimpleName());
        }
        return before + text + behind;
    }

    private static void membersArePrivateOtherwise() {
        Set<String> seen = new TreeSet<>();
        for (Field field : MarbleBoard.class.getDeclaredFields()) {
            int modifiers = field.getModifiers();
            if (!Modifier.isPrivate(modifiers)) {
                seen.add(field.getName());
            }
            Check.same("static " + field.getName() + " is final",
                !Modifier.isStatic(modifiers) || Modifier.isFinal(modifiers), true);
        }
        Check.same("constants", String.join(" ", seen), "LOOP MANY NONE");
        Set<String> face = new TreeSet<>();
        for (String line : FACE) {
            face.add(line.substring(0, line.indexOf('(')));
        }
        for (Method method : MarbleBoard.class.getDeclaredMethods()) {
            boolean isPrivate = Modifier.isPrivate(method.getModifiers());
            Check.same(method.getName() + " is not private", isPrivate && face.contains(method.getName()), false);
        }
    }

    private static void classesInsideAreStatic() {
        for (Class<?> inside : MarbleBoard.class.getDeclaredClasses()) {
            int modifiers = inside.getModifiers();
            Check.same(inside.getName() + " is static", Modifier.isStatic(modifiers), true);
            Check.same(inside.getName() + " is hidden",
                Modifier.isPublic(modifiers) || Modifier.isProtected(modifiers), false);
        }
    }
}
