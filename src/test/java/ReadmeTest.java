import java.io.IOException;
import java.lang.reflect.Method;
import java.lang.reflect.Modifier;
import java.net.URL;
import java.net.URLClassLoader;
import java.nio.file.Files;
import java.nio.file.Path;
import java.util.ArrayList;
import java.util.List;
import java.util.regex.Matcher;
import java.util.regex.Pattern;
import javax.tools.ToolProvider;

/** README.md tells the truth: its run of calls is made, each answer compared, and each call of the face has a row. */
public final class ReadmeTest extends Checks {
    private static final Pattern BLOCK = Pattern.compile("```java\n(.*?)```", Pattern.DOTALL);
    private static final Pattern ANSWER = Pattern.compile("(?m)^(x\\.\\w+\\(.*\\)); +// (-?\\d+|true|false)\\b.*$");

    public static void main(String[] args) throws Exception {
        String readme = Files.readString(Path.of("README.md"));
        rows(readme);
        run(readme);
        finish("README.md tells what is so");
    }

    private static void rows(String readme) {
        for (Method m : StrawWatch.class.getDeclaredMethods()) {
            if (!Modifier.isPublic(m.getModifiers())) continue;
            Matcher row = Pattern.compile("(?m)^\\| `" + m.getName() + "\\(([^)]*)\\)` \\|").matcher(readme);
            yes("a row for " + m.getName(), row.find());
            int named = row.group(1).isEmpty() ? 0 : row.group(1).split(",").length;
            due("what " + m.getName() + " is given", named, m.getParameterCount());
        }
    }

    /** The helper and the run, as they stand, become a class of their own. */
    private static void run(String readme) throws Exception {
        List<String> blocks = new ArrayList<>();
        Matcher block = BLOCK.matcher(readme);
        while (block.find()) blocks.add(block.group(1));
        due("java blocks", blocks.size(), 2);
        Matcher answer = ANSWER.matcher(blocks.get(1));
        int answers = (int) answer.results().count();
        yes("answers to compare: " + answers, answers > 30);
        String calls = answer.replaceAll(r -> "due(" + Matcher.quoteReplacement(quoted(r.group(1))) + ", " + r.group(1) + ", " + r.group(2) + ");");
        String source = "import java.nio.ByteBuffer;import java.nio.charset.StandardCharsets;import java.util.Arrays;\n"
            + "public final class Readme {\n" + blocks.get(0)
            + "static void due(String call, Object got, Object want) { ReadmeTest.same(call, got.toString(), want.toString()); }\n"
            + "public static void main(String[] args) {\n" + calls + "} }\n";
        Path dir = Files.createTempDirectory("readme");
        try {
            compileAndRun(dir, source);
        } finally {
            Files.deleteIfExists(dir.resolve("Readme.class"));
            Files.deleteIfExists(dir.resolve("Readme.java"));
            Files.delete(dir);
        }
    }

    private static String quoted(String call) { return "\"" + call + "\""; }

    private static void compileAndRun(Path dir, String source) throws IOException, ReflectiveOperationException {
        Path file = Files.writeString(dir.resolve("Readme.java"), source);
        int failed = ToolProvider.getSystemJavaCompiler().run(null, null, null,
            "-cp", System.getProperty("java.class.path"), "-d", dir.toString(), file.toString());
        due("README.md's code compiles", failed, 0);
        if (failed != 0) return;
        // ReadmeTest itself is public, so that a class from another loader can call it.
        try (URLClassLoader loader = new URLClassLoader(new URL[] {dir.toUri().toURL()}, ReadmeTest.class.getClassLoader())) {
            loader.loadClass("Readme").getMethod("main", String[].class).invoke(null, (Object) new String[0]);
        }
    }

    public static void same(String call, String got, String want) {
        if (got.equals(want)) return;
        wrong++;
        System.out.println("README.md: " + call + " answered " + got + ", there stands " + want);
    }
}
