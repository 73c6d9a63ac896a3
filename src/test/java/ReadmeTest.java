import java.io.IOException;
import java.lang.reflect.Field;
import java.lang.reflect.Method;
import java.lang.reflect.Modifier;
import java.net.URL;
import java.net.URLClassLoader;
import java.nio.file.Files;
import java.nio.file.Path;
import java.util.regex.Matcher;
import java.util.regex.Pattern;
import java.util.stream.Stream;
import javax.tools.ToolProvider;

/** README.md tells the truth: its examples are compiled and run, and each answer that they tell is the one given. */
public final class ReadmeTest {
    private static final Pattern BLOCK = Pattern.compile("(?s)```java\n(.*?)```");
    private static final Pattern ANSWER = Pattern.compile("int (\\w+) = [^;]*;\\s*// (-?\\d+)(:.*)?");
    private static int asked = 0, wrong = 0;

    public static void main(String[] args) throws Exception {
        String readme = Files.readString(Path.of("README.md"));
        names(readme);
        StringBuilder source = new StringBuilder("public final class Examples {\n    public static void run() {\n");
        int blocks = 0;
        for (Matcher block = BLOCK.matcher(readme); block.find(); blocks++) {
            addBlock(block.group(1), source);
        }
        due(blocks > 0, "README.md has examples");
        run(source.append("    }\n}\n").toString());
        System.out.println("ReadmeTest: " + blocks + " examples, " + asked + " answers, " + wrong + " wrong");
        if (wrong != 0) {
            System.exit(1);
        }
    }

    private static void due(boolean holds, String what) {
        if (!holds) {
            wrong++;
            System.out.println("ReadmeTest: not so: " + what);
        }
    }

    /** Called by what is made of the examples. */
    public static void is(String line, int got, int want) {
        asked++;
        due(got == want, line + " (it is " + got + ")");
    }

    private static void names(String readme) {
        for (Method method : SkinShow.class.getDeclaredMethods()) {
            if (Modifier.isPublic(method.getModifiers())) {
                Matcher call = Pattern.compile("`" + method.getName() + "\\(([^)]*)\\)`").matcher(readme);
                boolean told = call.find();
                due(told, "README.md tells of " + method.getName());
                int taken = !told || call.group(1).isEmpty() ? 0 : call.group(1).split(",").length;
                due(taken == method.getParameterCount(), "README.md tells what " + method.getName() + " takes");
            }
        }
        for (Field field : SkinShow.class.getDeclaredFields()) {
            if (Modifier.isPublic(field.getModifiers())) {
                String row = "| `" + field.getName() + "` | " + constant(field) + " |";
                due(readme.contains(row), "README.md has " + row);
            }
        }
    }

    private static int constant(Field field) {
        try {
            return field.getInt(null);
        } catch (IllegalAccessException e) {
            throw new IllegalStateException(e);
        }
    }

    /** Each line that makes an int has to tell what it is; behind it the answer is asked for. */
    private static void addBlock(String block, StringBuilder source) {
        source.append("    {\n");
        for (String line : block.split("\n")) {
            source.append(line).append('\n');
            Matcher answer = ANSWER.matcher(line);
            boolean told = answer.matches();
            due(told || !line.startsWith("int "), "an answer is told in: " + line);
            if (told) {
                String quoted = line.replace("\\", "\\\\").replace("\"", "\\\"");
                source.append("ReadmeTest.is(\"" + quoted + "\", " + answer.group(1) + ", " + answer.group(2) + ");\n");
            }
        }
        source.append("    }\n");
    }

    private static void run(String source) throws Exception {
        Path dir = Files.createTempDirectory("readme");
        try {
            Path file = Files.writeString(dir.resolve("Examples.java"), source);
            int rc = ToolProvider.getSystemJavaCompiler().run(null, null, null,
                "-cp", System.getProperty("java.class.path"), "-d", dir.toString(), file.toString());
            due(rc == 0, "the examples compile");
            if (rc == 0) {
                try (URLClassLoader loader = new URLClassLoader(new URL[] {dir.toUri().toURL()})) {
                    loader.loadClass("Examples").getMethod("run").invoke(null);
                }
            }
        } finally {
            remove(dir);
        }
    }

    private static void remove(Path dir) throws IOException {
        try (Stream<Path> files = Files.list(dir)) {
            for (Path file : files.toList()) {
                Files.delete(file);
            }
        }
        Files.delete(dir);
    }
}
