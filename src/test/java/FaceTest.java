import java.io.IOException;
import java.lang.reflect.Constructor;
import java.lang.reflect.Field;
import java.lang.reflect.Method;
import java.lang.reflect.Modifier;
import java.nio.file.Files;
import java.nio.file.Path;
import java.util.Set;
import java.util.TreeSet;

/** The public face is the document's, and the source keeps to those rules of LANGUAGE.md that a word betrays. */
public final class FaceTest {
    private static final String[] METHODS = {
        "agrees 0", "beyond 0", "best 0", "bound 0", "colours 1", "count 1", "cut 0", "draw 5", "drop 0", "fulfil 0",
        "joint 2", "lay 3", "looks 1", "lost 1", "mix 1", "parity 2", "part 1", "parted 0", "possible 1", "proof 0",
        "put 1", "quarrel 0", "ray 3", "sheet 3", "square 1", "stake 3", "told 2", "weight 3", "worth 0"};
    private static final String[] REFUSED = {
        "throw", "try", "catch", "synchronized", "assert", "protected", "package", "hashCode", "toString",
        "random", "Random", "currentTimeMillis", "nanoTime", "Thread", "->", "::"};

    public static void main(String[] args) throws IOException {
        Check check = new Check("face");
        methods(check);
        members(check);
        classes(check);
        words(check);
        check.end();
    }

    private static void methods(Check check) {
        Set<String> due = new TreeSet<>(Set.of(METHODS));
        Set<String> found = new TreeSet<>();
        for (Method m : LooksTogether.class.getDeclaredMethods()) {
            if (Modifier.isPublic(m.getModifiers())) {
                found.add(m.getName() + " " + m.getParameterCount());
                check.due(m.getName() + " answers an int", m.getReturnType() == int.class ? 1 : 0, 1);
                check.due(m.getName() + " is of an object", Modifier.isStatic(m.getModifiers()) ? 1 : 0, 0);
                for (Class<?> type : m.getParameterTypes()) {
                    check.due(m.getName() + " takes ints", type == int.class ? 1 : 0, 1);
                }
            } else {
                check.due(m.getName() + " is private", Modifier.isPrivate(m.getModifiers()) ? 1 : 0, 1);
            }
        }
        check.due("methods " + found, found.equals(due) ? 1 : 0, 1);
    }

    private static void members(Check check) {
        check.due("public and final", LooksTogether.class.getModifiers(), Modifier.PUBLIC | Modifier.FINAL);
        Constructor<?>[] made = LooksTogether.class.getDeclaredConstructors();
        check.due("constructors", made.length, 1);
        check.due("constructor's parameters", made[0].getParameterCount(), 0);
        Set<String> constants = new TreeSet<>();
        for (Field f : LooksTogether.class.getDeclaredFields()) {
            if (Modifier.isPublic(f.getModifiers())) {
                constants.add(f.getName());
            } else {
                check.due(f.getName() + " is private", Modifier.isPrivate(f.getModifiers()) ? 1 : 0, 1);
            }
        }
        Set<String> due = new TreeSet<>(Set.of("BAD", "STATE", "FULL", "NONE", "SPENT"));
        check.due("constants " + constants, constants.equals(due) ? 1 : 0, 1);
        check.due("BAD", LooksTogether.BAD, -1);
        check.due("STATE", LooksTogether.STATE, -2);
        check.due("FULL", LooksTogether.FULL, -3);
        check.due("NONE", LooksTogether.NONE, -4);
        check.due("SPENT", LooksTogether.SPENT, -6);
    }

    /** What reflection can tell of rules 1, 2, 5 and 11. */
    private static void classes(Check check) {
        Class<?>[] inside = LooksTogether.class.getDeclaredClasses();
        check.due("at most twelve classes", inside.length < 12 ? 1 : 0, 1);
        rulesOfClass(check, LooksTogether.class);
        for (Class<?> one : inside) {
            int modifiers = one.getModifiers();
            boolean shown = Modifier.isPublic(modifiers) || Modifier.isProtected(modifiers);
            check.due(one.getSimpleName() + " is static", Modifier.isStatic(modifiers) ? 1 : 0, 1);
            check.due(one.getSimpleName() + " is not shown", shown ? 1 : 0, 0);
            rulesOfClass(check, one);
        }
    }

    private static void rulesOfClass(Check check, Class<?> one) {
        int fields = 0;
        for (Field f : one.getDeclaredFields()) {
            boolean isStatic = Modifier.isStatic(f.getModifiers());
            fields += isStatic ? 0 : 1;
            check.due(f.getName() + " is changed", isStatic && !Modifier.isFinal(f.getModifiers()) ? 1 : 0, 0);
            check.due(f.getName() + " is a constant of int", isStatic && f.getType() != int.class ? 1 : 0, 0);
        }
        check.due(one.getSimpleName() + " has at most twenty fields", fields <= 20 ? 1 : 0, 1);
        for (Method m : one.getDeclaredMethods()) {
            boolean ofTheFace = one == LooksTogether.class && Modifier.isPublic(m.getModifiers());
            check.due(m.getName() + " has the name of a call", !ofTheFace && isCall(m.getName()) ? 1 : 0, 0);
            check.due(m.getName() + " takes at most seven", m.getParameterCount() <= 7 ? 1 : 0, 1);
        }
    }

    private static boolean isCall(String name) {
        for (String method : METHODS) {
            if (method.startsWith(name + " ")) {
                return true;
            }
        }
        return false;
    }

    private static void words(Check check) throws IOException {
        String source = Files.readString(Path.of("src/main/java/LooksTogether.java"));
        String code = source.replaceAll("(?s)/\\*.*?\\*/", " ").replaceAll("//[^\n]*", " ");
        for (String word : REFUSED) {
            boolean isWord = Character.isLetter(word.charAt(0));
            String pattern = isWord ? "(?s).*\\b" + word + "\\b.*" : "(?s).*" + word + ".*";
            check.due("the source has '" + word + "'", code.matches(pattern) ? 1 : 0, 0);
        }
        for (String line : code.split("\n")) {
            if (line.startsWith("import ")) {
                check.due(line, line.equals("import java.util.Arrays;") ? 1 : 0, 1);
            }
        }
    }
}
