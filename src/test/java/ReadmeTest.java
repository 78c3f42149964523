import java.io.File;
import java.io.IOException;
import java.nio.file.Files;
import java.nio.file.Path;
import java.util.regex.Matcher;
import java.util.regex.Pattern;
import java.util.stream.Stream;
import javax.tools.JavaCompiler;
import javax.tools.ToolProvider;

/** What README.md says holds, if it is done as written: its Java lines, and the tests that it names. */
public final class ReadmeTest {
    private static final String NAME = "ReadmeLines";
    // A call, and behind it in a comment what it answers or throws.
    private static final Pattern ANSWERED = Pattern.compile("^(\\w+\\.\\w+\\(.*\\)); +// (-?\\d+|true|false|NoSuchElementException)\\b.*");
    private static final Pattern NAMED = Pattern.compile("`(\\w+Test)`");

    private ReadmeTest() {
    }

    /** The README's Java lines as a class that compares their answers. */
    private static String program(String readme) {
        StringBuilder s = new StringBuilder("public final class " + NAME + " {\n");
        String[] parts = readme.split("```");
        int many = 0;
        for (int i = 1; i < parts.length; i += 2) {
            if (!parts[i].startsWith("java\n")) {
                continue;
            }
            s.append("static void lines").append(many).append("() {\n");
            for (String line : parts[i].substring(5).split("\n")) {
                s.append(compared(line)).append('\n');
            }
            s.append("}\n");
            many++;
        }
        s.append("public static void main(String[] args) {\n");
        for (int k = 0; k < many; k++) {
            s.append("lines").append(k).append("();\n");
        }
        Due.due("parts of the README that are Java", many, 2);
        return s.append("}\n}\n").toString();
    }

    private static String compared(String line) {
        Matcher m = ANSWERED.matcher(line);
        if (!m.matches()) {
            return line;
        }
        String call = m.group(1);
        String told = '"' + call.replace("\\", "\\\\").replace("\"", "\\\"") + '"';
        String answer = m.group(2);
        if (answer.startsWith("No")) {
            return "Due.missing(" + told + ", () -> " + call + ");";
        }
        return "Due.due(" + told + ", " + call + ", " + answer + ");";
    }

    /** Compiled beside the tests' own classes, as it needs Calls and Due. */
    private static void compileAndRun(String program) throws Exception {
        Path file = Files.createTempDirectory("readme").resolve(NAME + ".java");
        Files.writeString(file, program);
        JavaCompiler compiler = ToolProvider.getSystemJavaCompiler();
        String classes = System.getProperty("java.class.path");
        String out = classes.split(File.pathSeparator)[0];
        int failed = compiler.run(null, null, null, "-cp", classes, "-d", out, file.toString());
        Due.due("compiling the README's lines", failed, 0);
        Files.delete(file);
        Files.delete(file.getParent());
        if (failed == 0) {
            Class.forName(NAME).getMethod("main", String[].class).invoke(null, (Object) new String[0]);
        }
    }

    private static void namesTests(String readme) throws IOException {
        Path tests = Path.of("src", "test", "java");
        try (Stream<Path> files = Files.list(tests)) {
            files.map(f -> f.getFileName().toString()).filter(f -> f.endsWith("Test.java")).sorted().forEach(f ->
                Due.due("README names " + f, readme.contains("`" + f.replace(".java", "") + "`"), true));
        }
        Matcher m = NAMED.matcher(readme);
        while (m.find()) {
            Due.due("there is " + m.group(1), Files.exists(tests.resolve(m.group(1) + ".java")), true);
        }
        Due.due("README names .ci/run", readme.contains("    .ci/run\n"), true);
        Due.due(".ci/run may be run", Files.isExecutable(Path.of(".ci", "run")), true);
    }

    public static void main(String[] args) throws Exception {
        String readme = Files.readString(Path.of("README.md"));
        compileAndRun(program(readme));
        namesTests(readme);
        Due.close("ReadmeTest");
    }
}
