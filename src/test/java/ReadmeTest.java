import java.lang.reflect.Method;
import java.lang.reflect.Modifier;
import java.nio.file.Files;
import java.nio.file.Path;
import java.util.ArrayList;
import java.util.List;
import java.util.Set;
import java.util.TreeSet;
import java.util.regex.Matcher;
import java.util.regex.Pattern;

/** That README.md is so as it says: its calls and answers, its way to run the tests, its names. Run from the project's folder. */
public final class ReadmeTest {
    /** A statement with one call on the README's object, and what is told of it. */
    private static final Pattern CALL = Pattern.compile("lighter\\.(\\w+)(\\(.*\\));\\s*// (.*)");
    private static final Pattern ANSWER = Pattern.compile("(-?\\d+)(: .+)?");
    /** What typing a whole text needs; these calls' answers are not told. */
    private static final Set<String> UNTOLD = Set.of("EvenHold lighter = new EvenHold();", "lighter.letter(c);", "}", "");
    private static int wrong = 0;

    private static void check(boolean holds, String what) {
        if (!holds) {
            wrong++;
            System.out.println("not so: " + what);
        }
    }

    private static List<String> blocks(String readme, String language) {
        List<String> blocks = new ArrayList<>();
        Matcher fence = Pattern.compile("(?ms)^```(\\w+)\n(.*?)^```$").matcher(readme);
        while (fence.find()) if (fence.group(1).equals(language)) blocks.add(fence.group(2));
        return blocks;
    }

    /** The README's own lines as a program, in which each told answer is asked for. */
    private static String program(String block) {
        StringBuilder text = new StringBuilder("public final class ReadmeUse {\n"
            + "static int wrong = 0;\n"
            + "static void due(String line, long got, long want) {\n"
            + "if (got != want) { wrong++; System.out.println(\"answered \" + got + \" by: \" + line); } }\n"
            + "public static void main(String[] args) {\n");
        for (String line : block.split("\n")) {
            Matcher call = CALL.matcher(line);
            Matcher answer = ANSWER.matcher(call.matches() ? call.group(3) : "");
            if (answer.matches()) {
                String quoted = line.replace("\\", "\\\\").replace("\"", "\\\"");
                text.append("due(\"" + quoted + "\", lighter." + call.group(1) + call.group(2) + ", " + answer.group(1) + "L);\n");
            } else {
                String plain = line.trim();
                check(UNTOLD.contains(plain) || plain.startsWith("//") || plain.startsWith("for ("), "an answer is told by: " + line);
                text.append(line).append('\n');
            }
        }
        return text + "System.exit(wrong == 0 ? 0 : 1);\n}\n}\n";
    }

    private static void use(String readme) throws Exception {
        List<String> blocks = blocks(readme, "java");
        check(blocks.size() == 1, "one piece of Java is shown, not " + blocks.size());
        for (String block : blocks) {
            Path folder = Files.createTempDirectory("readme");
            Path source = folder.resolve("ReadmeUse.java");
            Files.writeString(source, program(block));
            String with = System.getProperty("java.class.path");
            int compiled = exit("javac", "-encoding", "UTF-8", "-cp", with, "-d", folder.toString(), source.toString());
            check(compiled == 0, "what is shown compiles");
            if (compiled == 0) {
                check(exit("java", "-cp", with + java.io.File.pathSeparator + folder, "ReadmeUse") == 0, "calls answer as is told");
            }
            for (Path made : new Path[] {source, folder.resolve("ReadmeUse.class"), folder}) Files.deleteIfExists(made);
            for (Method m : EvenHold.class.getDeclaredMethods()) {
                boolean told = Pattern.compile("lighter\\." + m.getName() + "\\([^\n]*// -?\\d").matcher(block).find();
                check(!Modifier.isPublic(m.getModifiers()) || told, m.getName() + "() is shown with an answer");
            }
        }
    }

    private static int exit(String... command) throws Exception {
        return new ProcessBuilder(command).inheritIO().start().waitFor();
    }

    private static void refusals(String readme) {
        String[] told = {
            "`NONE` (" + EvenHold.NONE + ")", "`UNKNOWN` (" + EvenHold.UNKNOWN + ":", "`OUTSIDE` (" + EvenHold.OUTSIDE + ":",
            "`STATE` (" + EvenHold.STATE + ":", "`FULL` (" + EvenHold.FULL + ":"
        };
        for (String words : told) check(readme.contains(words), "told: " + words);
    }

    /** The way to run all tests is only looked at: it runs this one. */
    private static void commands(String readme) throws Exception {
        List<String> blocks = blocks(readme, "sh");
        check(blocks.contains(".ci/run\n"), ".ci/run is told");
        check(Files.isExecutable(Path.of(".ci/run")), ".ci/run can be run");
        int others = 0;
        for (String block : blocks) {
            if (block.equals(".ci/run\n")) continue;
            others++;
            check(exit("sh", "-e", "-c", block) == 0, "this runs: " + block);
        }
        check(others == 1, "the way to run one test is told");
    }

    private static void names(String readme) throws Exception {
        Matcher name = Pattern.compile("`((?:\\.\\./|src/)[^`*]+)`").matcher(readme);
        Set<String> named = new TreeSet<>();
        while (name.find()) named.add(name.group(1));
        for (String path : named) check(Files.exists(Path.of(path)), path + " is there");
        try (var files = Files.list(Path.of("src/test/java"))) {
            for (Path file : (Iterable<Path>) files::iterator) {
                check(!file.toString().endsWith(".java") || named.contains(file.toString()), file + " is named");
            }
        }
    }

    public static void main(String[] args) throws Exception {
        String readme = Files.readString(Path.of("README.md"));
        use(readme);
        refusals(readme);
        commands(readme);
        names(readme);
        System.out.println(wrong == 0 ? "README.md is as it says" : wrong + " things are not as README.md says");
        if (wrong != 0) System.exit(1);
    }
}
