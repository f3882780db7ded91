import java.lang.reflect.Constructor;
import java.lang.reflect.Field;
import java.lang.reflect.Method;
import java.lang.reflect.Modifier;
import java.nio.file.Files;
import java.nio.file.Path;
import java.util.Set;
import java.util.TreeSet;

/** The face of the class, what its source may not hold, and that calls make nothing. Run from the project's folder. */
public final class RulesTest {
    private static final Set<String> FACE = Set.of(
        "int letter(int)", "int blank()", "int fault()", "int hold()", "int bay(int,int)", "int as(int,int)",
        "int ground(boolean)", "int hull(int)", "int may(int)", "int act(int)", "int soonest(int)", "int most()",
        "int holds()", "int leastBend()", "int string(int)", "int forget()", "int fits(int)", "int days(int,int,int)",
        "int image()", "int restore()", "int count(int)", "long digest()");
    private static int wrong = 0;

    private static void check(boolean holds, String what) {
        if (!holds) {
            wrong++;
            System.out.println("not so: " + what);
        }
    }

    private static void face() {
        check(Modifier.isFinal(EvenHold.class.getModifiers()) && Modifier.isPublic(EvenHold.class.getModifiers()), "public final class");
        Set<String> shown = new TreeSet<>();
        Set<String> names = new TreeSet<>();
        for (Method m : EvenHold.class.getDeclaredMethods()) {
            if (Modifier.isPublic(m.getModifiers())) names.add(m.getName());
            if (Modifier.isPrivate(m.getModifiers())) continue;
            StringBuilder text = new StringBuilder(m.getReturnType() + " " + m.getName() + "(");
            for (Class<?> type : m.getParameterTypes()) text.append(text.charAt(text.length() - 1) == '(' ? "" : ",").append(type);
            shown.add(text + ")");
        }
        check(shown.equals(new TreeSet<>(FACE)), "the face is " + shown);
        for (Method m : EvenHold.class.getDeclaredMethods()) {
            check(!Modifier.isPrivate(m.getModifiers()) || !names.contains(m.getName()), "private " + m.getName() + " bears a public name");
        }
        Constructor<?>[] made = EvenHold.class.getDeclaredConstructors();
        check(made.length == 1 && Modifier.isPublic(made[0].getModifiers()) && made[0].getParameterCount() == 0, "one public constructor");
        Set<String> constants = new TreeSet<>();
        for (Field f : EvenHold.class.getDeclaredFields()) {
            if (!Modifier.isPrivate(f.getModifiers())) constants.add(f.getName());
            check(!Modifier.isStatic(f.getModifiers()) || Modifier.isFinal(f.getModifiers()), "static " + f.getName() + " is final");
        }
        check(constants.equals(new TreeSet<>(Set.of("NONE", "UNKNOWN", "OUTSIDE", "STATE", "FULL"))), "constants are " + constants);
        for (Class<?> inside : EvenHold.class.getDeclaredClasses()) {
            check(Modifier.isStatic(inside.getModifiers()), inside + " is static");
            check(inside.getDeclaredFields().length <= 20, inside + " has few fields");
        }
        check(EvenHold.class.getDeclaredClasses().length <= 12, "few classes");
    }

    private static void source() throws Exception {
        String text = Files.readString(Path.of("src/main/java/EvenHold.java"));
        String code = text.replaceAll("(?s)/\\*.*?\\*/", " ").replaceAll("//[^\n]*", " ");
        for (String word : "throw throws try catch finally synchronized assert package protected volatile native transient -> :: while goto".split(" ")) {
            String sought = Character.isLetter(word.charAt(0)) ? "\\b" + word + "\\b" : word;
            check(!java.util.regex.Pattern.compile(sought).matcher(code).find(), "no '" + word + "'");
        }
        check(!code.matches("(?s).*\\b(System\\.(?!arraycopy)|Random|Thread|Exact|toString|hashCode|Object)\\b.*"), "no library but what the rules list");
        for (String line : text.split("\n")) {
            check(!line.startsWith("import ") || line.equals("import java.util.Arrays;"), line);
            for (char c : line.toCharArray()) check(c >= 32 && c < 127, "plain signs in: " + line);
        }
        int since = 0;
        for (String line : text.split("\n")) {
            since++;
            if (line.matches(" {4}(    )?\\S.*\\) \\{")) since = 0;
            check(!line.matches(" {4}(    )?\\}") || since <= 60, "a method is short, up to: " + line);
        }
    }

    /** What a call makes stays for the whole run: so all is made with the object, in its fields. */
    private static void room() throws Exception {
        for (String line : Files.readAllLines(Path.of("src/main/java/EvenHold.java"))) {
            boolean makes = line.matches(".*\\bnew\\b.*") && !line.matches("\\s*(/?\\*|//).*");
            check(!makes || line.matches("\\s+(private )?final \\S+ \\w+ = new .*;"), "made with the object: " + line);
        }
    }

    public static void main(String[] args) throws Exception {
        face();
        source();
        room();
        System.out.println(wrong == 0 ? "all rules are kept" : wrong + " rules are not kept");
        if (wrong != 0) System.exit(1);
    }
}
