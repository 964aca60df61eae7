import java.io.IOException;
import java.lang.reflect.Method;
import java.lang.reflect.Modifier;
import java.net.URL;
import java.net.URLClassLoader;
import java.nio.file.Files;
import java.nio.file.Path;
import java.util.List;
import java.util.regex.Matcher;
import java.util.regex.Pattern;
import javax.tools.ToolProvider;

/** README.md: its example answers what it says behind each call, and its table names each call as the face has it. */
public final class ReadmeTests {
    private static final Pattern ANSWERED = Pattern.compile("(?:int (\\w+) = )?(.*\\));\\s*// (-?\\d+).*");
    private static final int LEAST_ANSWERS = 20;

    private static int wrong = 0;
    private static int answers = 0;

    /** The compiled example calls this, too: so it is public. */
    public static void due(String what, long got, long want) {
        if (got != want) {
            wrong++;
            System.out.println("README.md: " + what + " answered " + got + ", due is " + want);
        }
    }

    private static void must(boolean holds, String what) {
        due(what, holds ? 1 : 0, 1);
    }

    private static String example(String readme) {
        String fence = "```java\n";
        int begin = readme.indexOf(fence);
        int end = readme.indexOf("\n```\n", begin);
        must(begin >= 0 && end > begin, "there is an example");
        return begin >= 0 && end > begin ? readme.substring(begin + fence.length(), end) : "";
    }

    private static String program(String example) {
        StringBuilder body = new StringBuilder();
        for (String line : example.split("\n")) {
            Matcher m = ANSWERED.matcher(line);
            if (!m.matches()) {
                body.append(line).append('\n');
                continue;
            }
            answers++;
            String name = m.group(1) == null ? "answer" + answers : m.group(1);
            body.append("int ").append(name).append(" = ").append(m.group(2)).append(";\n");
            body.append("ReadmeTests.due(\"").append(m.group(2).replace("\"", "'")).append("\", ").append(name);
            body.append(", ").append(m.group(3)).append(");\n");
        }
        return "public final class Example {\npublic static void run() {\n" + body + "}\n}\n";
    }

    private static void runExample(String example) throws IOException, ReflectiveOperationException {
        Path folder = Files.createTempDirectory("readme");
        Path source = folder.resolve("Example.java");
        Path compiled = folder.resolve("Example.class");
        try {
            Files.writeString(source, program(example));
            int failed = ToolProvider.getSystemJavaCompiler().run(null, null, null, "-d", folder.toString(),
                "-cp", System.getProperty("java.class.path"), source.toString());
            due("the compiler", failed, 0);
            if (failed != 0) return;
            try (URLClassLoader loader = new URLClassLoader(new URL[] {folder.toUri().toURL()},
                    ReadmeTests.class.getClassLoader())) {
                loader.loadClass("Example").getMethod("run").invoke(null);
            }
        } finally {
            for (Path path : List.of(source, compiled, folder)) Files.deleteIfExists(path);
        }
        must(answers >= LEAST_ANSWERS, "the example tells its answers");
    }

    /** A call stands in the table with as many names as it takes numbers. */
    private static void table(String readme) {
        for (Method m : DrawnFields.class.getDeclaredMethods()) {
            if (!Modifier.isPublic(m.getModifiers())) continue;
            String names = m.getParameterCount() == 0 ? "" : "\\w+(, \\w+){" + (m.getParameterCount() - 1) + "}";
            Pattern call = Pattern.compile("`" + m.getName() + "\\(" + names + "\\)`");
            must(call.matcher(readme).find(), "the table names " + m.getName());
        }
    }

    /** Each test of the project is told of, so that none is overlooked. */
    private static void tests(String readme) throws IOException {
        try (var files = Files.list(Path.of("src/test/java"))) {
            for (Path file : files.toList()) {
                must(readme.contains("`src/test/java/" + file.getFileName() + "`"), "it tells of " + file);
            }
        }
    }

    public static void main(String[] args) throws IOException, ReflectiveOperationException {
        String readme = Files.readString(Path.of("README.md"));
        runExample(example(readme));
        table(readme);
        tests(readme);
        System.out.println(wrong == 0 ? answers + " answers of README.md are as due" : wrong + " are not as due");
        if (wrong != 0) System.exit(1);
    }
}
