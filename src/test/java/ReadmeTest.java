import java.io.IOException;
import java.lang.reflect.InvocationTargetException;
import java.lang.reflect.Method;
import java.lang.reflect.Modifier;
import java.net.URL;
import java.net.URLClassLoader;
import java.nio.charset.StandardCharsets;
import java.nio.file.Files;
import java.nio.file.Path;
import java.util.regex.Matcher;
import java.util.regex.Pattern;
import javax.tools.ToolProvider;

/** README.md names every call, and its example answers as it tells. Runs in the project's folder. */
public final class ReadmeTest {
    private static final Path README = Path.of("README.md");
    private static final Pattern BLOCK = Pattern.compile("```java\n(.*?)```", Pattern.DOTALL);
    private static final Pattern CALL = Pattern.compile("(int|boolean) (\\w+) = .*; +// (-?\\d+|true|false)(:.*)?");
    private static final Checks c = new Checks("ReadmeTest");

    public static void main(String[] args) throws IOException, ReflectiveOperationException {
        String readme = Files.readString(README, StandardCharsets.UTF_8);
        for (Method method : ChargePark.class.getDeclaredMethods()) {
            if (Modifier.isPublic(method.getModifiers())) {
                c.yes(method.getName() + " is told of", readme.contains("`" + method.getName() + "("));
            }
        }
        Matcher block = BLOCK.matcher(readme);
        c.yes("there is an example", block.find());
        run(withChecks(block.group(1)));
        c.end();
    }

    /** A class whose method main is the example; each answer is compared with the one told behind it. */
    private static String withChecks(String example) {
        StringBuilder source = new StringBuilder("public class Example {\n public static void main(String[] args) {\n");
        for (String line : example.split("\n")) {
            source.append(line).append('\n');
            Matcher call = CALL.matcher(line);
            boolean told = call.matches();
            c.yes("an answer is told: " + line, told || line.equals("ChargePark park = new ChargePark();"));
            if (told) {
                source.append("if (").append(call.group(2)).append(" != ").append(call.group(3))
                    .append(") throw new IllegalStateException(\"").append(call.group(2)).append(" is \" + ")
                    .append(call.group(2)).append(");\n");
            }
        }
        return source.append(" }\n}\n").toString();
    }

    private static void run(String source) throws IOException, ReflectiveOperationException {
        Path folder = Files.createTempDirectory("readme");
        Path file = folder.resolve("Example.java");
        Path compiled = folder.resolve("Example.class");
        try {
            Files.writeString(file, source);
            int exit = ToolProvider.getSystemJavaCompiler().run(null, null, null,
                "-cp", System.getProperty("java.class.path"), "-d", folder.toString(), file.toString());
            c.same("compiling the example", exit, 0);
            if (exit == 0) {
                c.same("the example", wrongAnswer(folder), "as told");
            }
        } finally {
            Files.deleteIfExists(compiled);
            Files.deleteIfExists(file);
            Files.delete(folder);
        }
    }

    private static String wrongAnswer(Path folder) throws IOException, ReflectiveOperationException {
        try (URLClassLoader loader = new URLClassLoader(new URL[] {folder.toUri().toURL()})) {
            loader.loadClass("Example").getMethod("main", String[].class).invoke(null, (Object) new String[0]);
            return "as told";
        } catch (InvocationTargetException e) {
            return String.valueOf(e.getCause().getMessage());
        }
    }
}
