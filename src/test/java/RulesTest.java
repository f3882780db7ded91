import java.lang.reflect.Constructor;
import java.lang.reflect.Field;
import java.lang.reflect.Method;
import java.lang.reflect.Modifier;
import java.nio.file.Files;
import java.nio.file.Path;
import java.util.Set;
import java.util.TreeSet;

/** The face of the class, what its source may not hold, and that a run keeps to its room. Run from the project's folder. */
public final class RulesTest {
    private static final Set<String> FACE = Set.of(
        "int letter(int)", "int blank()", "int fault()", "int hold()", "int bay(int,int)", "int as(int,int)",
        "int ground(boolean)", "int hull(int)", "int may(int)", "int act(int)", "int soonest(int)", "int most()",
        "int holds()", "int leastBend()", "int string(int)", "int forget()", "int fits(int)", "int days(int,int,int)",
        "int image()", "int restore()", "int count(int)", "long digest()");
    private static int wrong = 0;

    private static void check(boolean holds, String what) {
        if (!holds) {
            wrong++;
            System.out.println("not so: " + what);
        }
    }

    private static void face() {
        check(Modifier.isFinal(EvenHold.class.getModifiers()) && Modifier.isPublic(EvenHold.class.getModifiers()), "public final class");
        Set<String> shown = new TreeSet<>();
        Set<String> names = new TreeSet<>();
        for (Method m : EvenHold.class.getDeclaredMethods()) {
            if (Modifier.isPublic(m.getModifiers())) names.add(m.getName());
            if (Modifier.isPrivate(m.getModifiers())) continue;
            StringBuilder text = new StringBuilder(m.getReturnType() + " " + m.getName() + "(");
            for (Class<?> type : m.getParameterTypes()) text.append(text.charAt(text.length() - 1) == '(' ? "" : ",").append(type);
            shown.add(text + ")");
        }
        check(shown.equals(new TreeSet<>(FACE)), "the face is " + shown);
        for (Method m : EvenHold.class.getDeclaredMethods()) {
            check(!Modifier.isPrivate(m.getModifiers()) || !names.contains(m.getName()), "private " + m.getName() + " bears a public name");
        }
        Constructor<?>[] made = EvenHold.class.getDeclaredConstructors();
        check(made.length == 1 && Modifier.isPublic(made[0].getModifiers()) && made[0].getParameterCount() == 0, "one public constructor");
        Set<String> constants = new TreeSet<>();
        for (Field f : EvenHold.class.getDeclaredFields()) {
            if (!Modifier.isPrivate(f.getModifiers())) constants.add(f.getName());
            check(!Modifier.isStatic(f.getModifiers()) || Modifier.isFinal(f.getModifiers()), "static " + f.getName() + " is final");
        }
        check(constants.equals(new TreeSet<>(Set.of("NONE", "UNKNOWN", "OUTSIDE", "STATE", "FULL"))), "constants are " + constants);
        for (Class<?> inside : EvenHold.class.getDeclaredClasses()) {
            check(Modifier.isStatic(inside.getModifiers()), inside + " is static");
            check(inside.getDeclaredFields().length <= 20, inside + " has few fields");
        }
        check(EvenHold.class.getDeclaredClasses().length <= 12, "few classes");
    }

    private static void source() throws Exception {
        String text = Files.readString(Path.of("src/main/java/EvenHold.java"));
        String code = text.replaceAll("(?s)/\\*.*?\\*/", " ").replaceAll("//[^\n]*", " ");
        for (String word : "throw throws try catch finally synchronized assert package protected volatile native transient :: goto".split(" ")) {
            String sought = Character.isLetter(word.charAt(0)) ? "\\b" + word + "\\b" : word;
            check(!java.util.regex.Pattern.compile(sought).matcher(code).find(), "no '" + word + "'");
        }
        check(!code.matches("(?s).*\\b(System\\.(?!arraycopy)|Random|Thread|\\w+Exact|hashCode|Object)\\b.*"), "no library but what the rules list");
        // The arrow of a case is no lambda.
        for (String line : code.split("\n")) check(!line.contains("->") || line.matches("\\s*(case\\b.*|default\\s*)->.*"), "no lambda: " + line);
        for (String line : text.split("\n")) {
            check(!line.startsWith("import ") || line.matches("import java\\.util\\.(Arrays|ArrayList|List|Iterator);"), line);
            for (char c : line.toCharArray()) check(c >= 32 && c < 127, "plain signs in: " + line);
        }
        int since = 0;
        for (String line : text.split("\n")) {
            since++;
            if (line.matches(" {4}(    )?\\S.*\\) \\{")) since = 0;
            check(!line.matches(" {4}(    )?\\}") || since <= 60, "a method is short, up to: " + line);
        }
    }

    /** All calls of a run live in one room: what the dearest ones make, as the machine counts it. */
    private static void room() {
        com.sun.management.ThreadMXBean made = (com.sun.management.ThreadMXBean) java.lang.management.ManagementFactory.getThreadMXBean();
        long before = made.getThreadAllocatedBytes(Thread.currentThread().getId());
        EvenHold x = new EvenHold();
        for (char c : "b33,h33,d33;99".toCharArray()) x.letter(c);
        x.hold();
        for (int n = 0; n < 4; n++) x.string(3);
        for (int n = 0; n < 12; n++) x.leastBend();
        for (int n = 0; n < 120; n++) {
            x.digest();
            x.act(n % 2 == 0 ? 0 : 12);
            x.fits(0);
            x.ground(n % 4 < 2);
        }
        long bytes = made.getThreadAllocatedBytes(Thread.currentThread().getId()) - before;
        check(bytes <= 4 * 7_300_000L, "a run keeps to its room, with " + bytes + " bytes");
    }

    public static void main(String[] args) throws Exception {
        face();
        source();
        room();
        System.out.println(wrong == 0 ? "all rules are kept" : wrong + " rules are not kept");
        if (wrong != 0) System.exit(1);
    }
}
