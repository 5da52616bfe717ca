import java.io.IOException;
import java.lang.reflect.Method;
import java.lang.reflect.Modifier;
import java.net.URL;
import java.net.URLClassLoader;
import java.nio.file.Files;
import java.nio.file.Path;
import java.util.ArrayList;
import java.util.List;
import java.util.regex.Matcher;
import java.util.regex.Pattern;
import javax.tools.JavaCompiler;
import javax.tools.ToolProvider;

/** README.md: its examples are compiled and run, and hold; it names each call, each refusal and each test. */
public final class ReadmeTest extends Asks {
    private static final Pattern BLOCK = Pattern.compile("```java\n(.*?)```", Pattern.DOTALL);
    private static final Pattern NAMED = Pattern.compile("\\s*int (\\w+) = (x\\..*\\));\\s*// (-?\\d+)(?::.*)?");
    private static final Pattern CALLED = Pattern.compile("\\s*(x\\..*\\));\\s*// (-?\\d+)(?::.*)?");
    private static final Pattern ROW = Pattern.compile("(?m)^\\| `(\\w+)\\(([^)]*)\\)` \\| .+ \\|$");
    private static final Path PAGE = Path.of("README.md");

    public static void main(String[] args) throws Exception {
        must(Files.exists(PAGE), "run from the project's folder");
        if (Files.exists(PAGE)) {
            String page = Files.readString(PAGE);
            examples(page);
            calls(page);
            refusals(page);
            tests(page);
        }
        end();
    }

    private static void examples(String page) throws Exception {
        List<String> blocks = new ArrayList<>();
        Matcher m = BLOCK.matcher(page);
        while (m.find()) {
            blocks.add(m.group(1));
        }
        must(blocks.size() >= 3, "some examples");
        Path folder = Files.createTempDirectory("readme");
        StringBuilder whole = new StringBuilder("public class Shown {\n");
        for (int i = 0; i < blocks.size(); i++) {
            whole.append("    public static void shown").append(i).append("() {\n").append(asked(blocks.get(i))).append("    }\n");
        }
        Path source = folder.resolve("Shown.java");
        Files.writeString(source, whole.append("}\n").toString());
        run(folder, source, blocks.size());
        clear(folder);
    }

    /** An example's lines; those that tell an answer ask for it. */
    private static String asked(String block) {
        StringBuilder lines = new StringBuilder();
        int answers = 0;
        for (String line : block.split("\n")) {
            Matcher named = NAMED.matcher(line);
            Matcher called = CALLED.matcher(line);
            String told = "\"" + line.replaceAll("//.*", "").trim().replace("\"", "'") + "\"";
            if (named.matches()) {
                lines.append("int ").append(named.group(1)).append(" = ").append(named.group(2)).append(";\n");
                lines.append("ReadmeTest.shown(").append(told).append(", ").append(named.group(1)).append(", ");
                lines.append(named.group(3)).append(");\n");
                answers++;
            } else if (called.matches()) {
                lines.append("ReadmeTest.shown(").append(told).append(", ").append(called.group(1)).append(", ");
                lines.append(called.group(2)).append(");\n");
                answers++;
            } else {
                must(!line.contains("//"), "README.md: each remark begins with an answer: " + line);
                lines.append(line).append("\n");
            }
        }
        must(answers >= 5, "README.md: examples tell their answers");
        return lines.toString();
    }

    /** Public, as the examples call it from another loader's class. */
    public static void shown(String line, long got, long want) {
        due("README.md: " + line, got, want);
    }

    private static void run(Path folder, Path source, int blocks) throws Exception {
        JavaCompiler javac = ToolProvider.getSystemJavaCompiler();
        String here = System.getProperty("java.class.path");
        int code = javac.run(null, null, null, "-cp", here, "-d", folder.toString(), source.toString());
        must(code == 0, "README.md: the examples compile");
        if (code == 0) {
            URL[] at = {folder.toUri().toURL()};
            try (URLClassLoader loader = new URLClassLoader(at, ReadmeTest.class.getClassLoader())) {
                Class<?> shown = loader.loadClass("Shown");
                for (int i = 0; i < blocks; i++) {
                    shown.getMethod("shown" + i).invoke(null);
                }
            }
        }
    }

    private static void clear(Path folder) throws IOException {
        Files.deleteIfExists(folder.resolve("Shown.java"));
        Files.deleteIfExists(folder.resolve("Shown.class"));
        Files.deleteIfExists(folder);
    }

    /** The table names each public method once, with as many numbers as it takes, in the document's order. */
    private static void calls(String page) throws IOException {
        List<String> rows = new ArrayList<>();
        Matcher m = ROW.matcher(page);
        while (m.find()) {
            int numbers = m.group(2).isEmpty() ? 0 : m.group(2).split(",").length;
            rows.add(m.group(1) + "/" + numbers);
        }
        List<String> told = new ArrayList<>();
        Matcher d = Pattern.compile("public int (\\w+)\\(([^)]*)\\);").matcher(Files.readString(Path.of("../shared/DOC.md")));
        while (d.find()) {
            told.add(d.group(1) + "/" + (d.group(2).isEmpty() ? 0 : d.group(2).split(",").length));
        }
        must(rows.equals(told), "README.md names each call: " + rows);
        int methods = 0;
        for (Method one : NeverStop.class.getDeclaredMethods()) {
            methods += Modifier.isPublic(one.getModifiers()) ? 1 : 0;
        }
        due("how many calls README.md names", rows.size(), methods);
    }

    private static void refusals(String page) {
        String[] all = {"-2 `BAD`", "-3 `STATE`", "-4 `FULL`", "-5", "-7", "-11", "-12", "-13", "-14"};
        for (String one : all) {
            must(page.contains("\n| " + one + " | "), "README.md tells " + one);
        }
    }

    private static void tests(String page) throws IOException {
        must(page.contains("\n.ci/run\n"), "README.md tells how the tests are run");
        try (var files = Files.newDirectoryStream(Path.of("src/test/java"), "*.java")) {
            for (Path file : files) {
                String name = file.getFileName().toString().replace(".java", "");
                must(page.contains("`" + name + "`"), "README.md tells of " + name);
            }
        }
    }
}
