import java.io.IOException;
import java.lang.reflect.InvocationTargetException;
import java.net.URL;
import java.net.URLClassLoader;
import java.nio.file.Files;
import java.nio.file.Path;
import java.util.regex.Matcher;
import java.util.regex.Pattern;
import javax.tools.JavaCompiler;
import javax.tools.ToolProvider;

/** README.md's example, compiled and run as it is written; the number behind a line is what the line must answer. */
public final class ReadmeTest {
    private static final int LEAST_ANSWERS = 30;
    private static final Pattern ANSWER = Pattern.compile("(?:int|long) (\\w+) = .*; +// (-?\\d+)\\b.*");
    private static final Pattern BLOCK = Pattern.compile("```java\n(.*?)```", Pattern.DOTALL);

    private static int answers = 0;

    public static void main(String[] args) throws Exception {
        Matcher block = BLOCK.matcher(Files.readString(Path.of("README.md")));
        if (!block.find()) fail("README.md has no example");
        String code = withChecks(block.group(1));
        if (answers < LEAST_ANSWERS) fail("README.md's example tells only " + answers + " answers");
        int wrong = run(code);
        if (wrong != 0) fail(wrong + " answers are not as README.md tells them");
        System.out.println("README.md tells " + answers + " answers as they are");
    }

    private static void fail(String why) {
        System.out.println(why);
        System.exit(1);
    }

    private static String withChecks(String example) {
        StringBuilder code = new StringBuilder("public final class Example {\n  public static int wrong() {\n    int wrong = 0;\n");
        for (String line : example.split("\n")) {
            code.append(line).append('\n');
            Matcher told = ANSWER.matcher(line);
            if (!told.matches()) continue;
            answers++;
            String name = told.group(1), want = told.group(2);
            code.append("if (").append(name).append(" != ").append(want).append("L) { wrong++; System.out.println(\"")
                .append(name).append(" is \" + ").append(name).append(" + \", README.md tells ").append(want).append("\"); }\n");
        }
        return code.append("    return wrong;\n  }\n}\n").toString();
    }

    private static int run(String code) throws IOException, ReflectiveOperationException {
        Path place = Files.createTempDirectory("readme");
        Path source = place.resolve("Example.java"), made = place.resolve("Example.class");
        try {
            Files.writeString(source, code);
            JavaCompiler compiler = ToolProvider.getSystemJavaCompiler();
            String path = System.getProperty("java.class.path");
            if (compiler.run(null, null, null, "-cp", path, "-d", place.toString(), source.toString()) != 0) {
                fail("README.md's example can't be compiled");
            }
            try (URLClassLoader loader = new URLClassLoader(new URL[] {place.toUri().toURL()}, StatuteBook.class.getClassLoader())) {
                return (int) loader.loadClass("Example").getMethod("wrong").invoke(null);
            } catch (InvocationTargetException e) {
                System.out.println("README.md's example threw " + e.getCause());
                return 1;
            }
        } finally {
            Files.deleteIfExists(source);
            Files.deleteIfExists(made);
            Files.deleteIfExists(place);
        }
    }
}
