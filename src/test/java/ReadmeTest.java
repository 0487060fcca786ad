import java.net.URL;
import java.net.URLClassLoader;
import java.nio.file.DirectoryStream;
import java.nio.file.Files;
import java.nio.file.Path;
import java.util.ArrayList;
import java.util.List;
import java.util.Set;
import java.util.TreeSet;
import java.util.regex.Matcher;
import java.util.regex.Pattern;
import javax.tools.ToolProvider;

/** What README.md says holds when tried: its Java is compiled and run, and each answer behind a call is the call's. */
public final class ReadmeTest {
    private static final Pattern BLOCK = Pattern.compile("(?ms)^```java\n(.*?)^```$");
    private static final Pattern CALL = Pattern.compile("^((?:(?!//).)*);\\s*// (throws \\w+|[^: ]+)(:.*)?$");
    private static final Pattern ROW = Pattern.compile("(?m)^\\| `(\\w+)` \\|");

    private static int calls = 0;
    private static int wrong = 0;

    private ReadmeTest() {
    }

    private static void due(String what, String got, String want) {
        if (!got.equals(want)) {
            wrong++;
            System.out.println("README.md: " + what + " is " + got + ", it says " + want);
        }
    }

    private static String quoted(String text) {
        return '"' + text.replace("\\", "\\\\").replace("\"", "\\\"") + '"';
    }

    /** A line with an answer behind it becomes one that hands over both; others stay as they are. */
    private static String asked(String line) {
        Matcher m = CALL.matcher(line);
        if (!m.matches()) {
            due("a line that tells an answer", line.indexOf("//") > 0 ? line : "", "");
            return line;
        }
        calls++;
        return "answers.add(new String[] {" + quoted(m.group(1)) + ", answer(() -> " + m.group(1) + "), " + quoted(m.group(2)) + "});";
    }

    private static String program(String readme) {
        StringBuilder helpers = new StringBuilder();
        StringBuilder runs = new StringBuilder();
        Matcher blocks = BLOCK.matcher(readme);
        while (blocks.find()) {
            String block = blocks.group(1);
            if (block.startsWith("static ")) {
                helpers.append(block);
                continue;
            }
            runs.append("{\n");
            for (String line : block.split("\n")) runs.append(asked(line)).append('\n');
            runs.append("}\n");
        }
        return "public class Readme implements java.util.function.Supplier<java.util.List<String[]>> {\n" + helpers
            + "static String answer(java.util.concurrent.Callable<?> call) {\n"
            + "try { return String.valueOf(call.call()); } catch (Exception e) { return \"throws \" + e.getClass().getSimpleName(); }\n}\n"
            + "public java.util.List<String[]> get() {\njava.util.List<String[]> answers = new java.util.ArrayList<>();\n" + runs
            + "return answers;\n}\n}\n";
    }

    @SuppressWarnings("unchecked")
    private static List<String[]> tried(String program) throws Exception {
        Path folder = Files.createTempDirectory("readme");
        Path source = folder.resolve("Readme.java");
        Files.writeString(source, program);
        int compiled = ToolProvider.getSystemJavaCompiler().run(null, null, null, "-encoding", "UTF-8",
            "-cp", System.getProperty("java.class.path"), "-d", folder.toString(), source.toString());
        due("its Java", compiled == 0 ? "compiled" : "not compiled", "compiled");
        List<String[]> answers = new ArrayList<>();
        if (compiled == 0) {
            try (URLClassLoader loader = new URLClassLoader(new URL[] {folder.toUri().toURL()})) {
                Object made = loader.loadClass("Readme").getDeclaredConstructor().newInstance();
                answers = ((java.util.function.Supplier<List<String[]>>) made).get();
            }
        }
        try (DirectoryStream<Path> files = Files.newDirectoryStream(folder)) {
            for (Path file : files) Files.delete(file);
        }
        Files.delete(folder);
        return answers;
    }

    private static Set<String> testsIn(Path folder) throws Exception {
        Set<String> names = new TreeSet<>();
        try (DirectoryStream<Path> files = Files.newDirectoryStream(folder, "*Test.java")) {
            for (Path file : files) names.add(file.getFileName().toString().replace(".java", ""));
        }
        return names;
    }

    public static void main(String[] args) throws Exception {
        Path root = Path.of(System.getProperty("root", "."));
        String readme = Files.readString(root.resolve("README.md"));
        for (String[] one : tried(program(readme))) due(one[0], one[1], one[2]);
        due("that it has calls with answers", String.valueOf(calls >= 20), "true");

        Set<String> told = new TreeSet<>();
        Matcher rows = ROW.matcher(readme);
        while (rows.find()) told.add(rows.group(1));
        due("its table of tests", told.toString(), testsIn(root.resolve("src/test/java")).toString());
        due("that .ci/run can be run", String.valueOf(readme.contains("\n.ci/run\n") && Files.isExecutable(root.resolve(".ci/run"))), "true");
        System.out.println(calls + " calls of README.md, " + wrong + " not as it says");
        if (wrong != 0) System.exit(1);
    }
}
