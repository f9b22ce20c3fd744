import java.io.IOException;
import java.lang.reflect.Method;
import java.lang.reflect.Modifier;
import java.net.URL;
import java.net.URLClassLoader;
import java.nio.file.Files;
import java.nio.file.Path;
import java.util.Arrays;
import java.util.regex.Matcher;
import java.util.regex.Pattern;
import javax.tools.ToolProvider;

/** README.md: its examples, compiled and run as they stand, answer what they say; every call of the class is named. */
public final class ReadmeTest {
    private static final Checks c = new Checks("ReadmeTest");
    private static final Pattern BLOCK = Pattern.compile("(?s)```java\n(.*?)```");
    private static final Pattern ANSWER = Pattern.compile("(x\\..*\\));\\s*// (-?\\d+): .*");

    public static void main(String[] args) throws IOException, ReflectiveOperationException {
        String readme = Files.readString(Sources.readme());
        examples(readme);
        names(readme);
        c.end();
    }

    /** Called by the examples: an answer, and the one that README.md tells behind it. */
    public static void due(String call, long got, long want) {
        c.due(call, got, want);
    }

    private static void examples(String readme) throws IOException, ReflectiveOperationException {
        StringBuilder body = new StringBuilder();
        int answers = 0;
        for (Matcher block = BLOCK.matcher(readme); block.find();) {
            for (String line : block.group(1).split("\n")) {
                Matcher told = ANSWER.matcher(line);
                if (told.matches()) {
                    answers++;
                    body.append("ReadmeTest.due(\"").append(told.group(1)).append("\", ").append(told.group(1)).append(", ").append(told.group(2)).append(");\n");
                } else {
                    body.append(line).append('\n');
                }
            }
        }
        c.due("examples are found", answers > 20 ? 1 : 0, 1);
        run("public final class Examples { public static void main(String[] args) {\n" + body + "} }\n");
    }

    private static void run(String program) throws IOException, ReflectiveOperationException {
        Path folder = Files.createTempDirectory("readme");
        Path file = folder.resolve("Examples.java");
        Files.writeString(file, program);
        int failed = ToolProvider.getSystemJavaCompiler().run(null, null, null, "-d", folder.toString(),
                "-cp", System.getProperty("java.class.path"), file.toString());
        c.due("the examples compile", failed, 0);
        if (failed == 0) {
            try (URLClassLoader loader = new URLClassLoader(new URL[] {folder.toUri().toURL()})) {
                loader.loadClass("Examples").getMethod("main", String[].class).invoke(null, (Object) new String[0]);
            }
        }
        for (String name : new String[] {"Examples.java", "Examples.class", ""}) {
            Files.deleteIfExists(folder.resolve(name));
        }
    }

    private static void names(String readme) {
        for (Method method : MiceRegisters.class.getDeclaredMethods()) {
            if (Modifier.isPublic(method.getModifiers())) {
                boolean isNamed = Pattern.compile("`" + method.getName() + "\\(").matcher(readme).find();
                c.due(method.getName() + "() is named", isNamed ? 1 : 0, 1);
            }
        }
        Arrays.stream(MiceRegisters.class.getFields()).forEach(
                field -> c.due(field.getName() + " is named", readme.contains("`" + field.getName() + "`") ? 1 : 0, 1));
    }
}
