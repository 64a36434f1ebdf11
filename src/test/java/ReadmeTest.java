import java.io.IOException;
import java.lang.reflect.InvocationTargetException;
import java.lang.reflect.Method;
import java.lang.reflect.Modifier;
import java.net.URL;
import java.net.URLClassLoader;
import java.nio.file.Files;
import java.nio.file.Path;
import java.util.ArrayList;
import java.util.List;
import java.util.regex.Matcher;
import java.util.regex.Pattern;
import java.util.stream.Stream;
import javax.tools.JavaCompiler;
import javax.tools.ToolProvider;

/** README.md: its example is compiled and run, each answer told there compared; it names all calls and tests. */
public final class ReadmeTest {
    private static final Pattern BLOCK = Pattern.compile("(?s)```java\n(.*?)```");
    private static final Pattern ASKED = Pattern.compile("^\\s*(x\\.\\w+\\(.*\\));\\s*// (-?\\d+L?|NONE|BAD|NOT|FULL)\\b");
    private static final Pattern CALLED = Pattern.compile("^\\s*x\\.\\w+\\(.*//");
    private static int wrong = 0;
    private static int compared = 0;

    private static void fail(String told) {
        wrong++;
        System.out.println(told);
    }

    /** The example calls this for each answer that it tells. */
    public static void due(String call, long got, long want) {
        compared++;
        if (got != want) {
            fail("README.md: " + call + " answered " + got + ", told is " + want);
        }
    }

    private static String exampleOf(String readme) {
        StringBuilder example = new StringBuilder("public final class ReadmeExample {\n");
        example.append("static final int NONE = ApproverWins.NONE, BAD = ApproverWins.BAD;\n");
        example.append("static final int NOT = ApproverWins.NOT, FULL = ApproverWins.FULL;\n");
        example.append("public static void run() {\n");
        Matcher block = BLOCK.matcher(readme);
        while (block.find()) {
            for (String line : block.group(1).split("\n")) {
                Matcher asked = ASKED.matcher(line);
                boolean isAsked = asked.find();
                if (!isAsked && CALLED.matcher(line).find()) {
                    fail("README.md tells no answer: " + line);
                }
                String call = isAsked ? asked.group(1) : "";
                example.append(isAsked ? "ReadmeTest.due(\"" + call + "\", " + call + ", " + asked.group(2) + ");" : line);
                example.append('\n');
            }
        }
        return example.append("}\n}\n").toString();
    }

    private static void runExample(String source) throws IOException, ReflectiveOperationException {
        Path dir = Files.createTempDirectory("readme");
        Path file = dir.resolve("ReadmeExample.java");
        Files.writeString(file, source);
        JavaCompiler compiler = ToolProvider.getSystemJavaCompiler();
        String path = System.getProperty("java.class.path");
        if (compiler.run(null, null, null, "-cp", path, "-d", dir.toString(), file.toString()) != 0) {
            fail("the example of README.md can't be compiled");
        } else {
            try (URLClassLoader loader = new URLClassLoader(new URL[] {dir.toUri().toURL()})) {
                loader.loadClass("ReadmeExample").getMethod("run").invoke(null);
            } catch (InvocationTargetException e) {
                fail("the example of README.md threw " + e.getCause());
            }
        }
        Files.deleteIfExists(dir.resolve("ReadmeExample.class"));
        Files.deleteIfExists(file);
        Files.deleteIfExists(dir);
    }

    private static void checkNames(String readme) throws IOException {
        List<String> names = new ArrayList<>();
        for (Method method : ApproverWins.class.getDeclaredMethods()) {
            if (Modifier.isPublic(method.getModifiers())) {
                names.add(method.getName());
            }
        }
        try (Stream<Path> files = Files.list(Path.of("src/test/java"))) {
            files.forEach(file -> names.add(file.getFileName().toString().replace(".java", "")));
        }
        for (String name : names) {
            if (!readme.contains("`" + name + "`")) {
                fail("README.md does not name " + name);
            }
        }
    }

    public static void main(String[] args) throws IOException, ReflectiveOperationException {
        String readme = Files.readString(Path.of("README.md"));
        runExample(exampleOf(readme));
        checkNames(readme);
        if (compared < 30) {
            fail("README.md tells only " + compared + " answers");
        }
        if (!readme.contains(".ci/run")) {
            fail("README.md does not say how to run the tests");
        }
        System.out.println(wrong == 0 ? "README.md holds: " + compared + " answers" : wrong + " faults in README.md");
        if (wrong != 0) {
            System.exit(1);
        }
    }
}
