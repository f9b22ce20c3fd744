import java.io.IOException;
import java.lang.reflect.Field;
import java.lang.reflect.Method;
import java.lang.reflect.Modifier;
import java.nio.file.Files;
import java.util.ArrayList;
import java.util.Arrays;
import java.util.List;
import java.util.regex.Matcher;
import java.util.regex.Pattern;

/** The class's face as the document writes it out: each constant, each call, and one promise for each of them, in order. */
public final class FaceTest {
    private static final Checks c = new Checks("FaceTest");
    private static final String CONSTANTS = "public static final int ";

    private final String document;
    private final String source;
    private final List<String> face = new ArrayList<>();

    private FaceTest(String document, String source) {
        this.document = document;
        this.source = source;
        int from = document.indexOf("```java\n") + "```java\n".length();
        for (String line : document.substring(from, document.indexOf("```", from)).split("\n")) {
            face.add(line.trim());
        }
    }

    public static void main(String[] args) throws IOException {
        String document = Doc.whole();
        if (document.isEmpty()) {
            System.out.println("FaceTest: skipped, since there is no document");
            return;
        }
        FaceTest test = new FaceTest(document, Files.readString(Sources.main()));
        test.classLine();
        test.constants();
        test.calls();
        test.promises();
        c.end();
    }

    private void classLine() {
        c.due("the face's first line", face.get(0).equals("public final class MiceRegisters {") ? 1 : 0, 1);
        stands(face.get(0));
        c.due("the face's last line", face.get(face.size() - 1).equals("}") ? 1 : 0, 1);
    }

    private void stands(String words) {
        c.due("'" + words + "' stands in the class", source.contains(words) ? 1 : 0, 1);
    }

    private void constants() {
        String line = face.get(1);
        c.due("constants are told", line.startsWith(CONSTANTS) ? 1 : 0, 1);
        String[] each = line.substring(CONSTANTS.length(), line.length() - 1).split(", ");
        for (String constant : each) {
            String[] parts = constant.split(" = ");
            c.due(parts[0], valueOf(parts[0]), Integer.parseInt(parts[1]));
        }
        long open = Arrays.stream(MiceRegisters.class.getDeclaredFields()).filter(f -> !Modifier.isPrivate(f.getModifiers())).count();
        c.due("constants, how many", open, each.length);
    }

    private static int valueOf(String constant) {
        try {
            Field field = MiceRegisters.class.getField(constant);
            int due = Modifier.PUBLIC | Modifier.STATIC | Modifier.FINAL;
            return field.getType() == int.class && field.getModifiers() == due ? field.getInt(null) : Integer.MIN_VALUE;
        } catch (ReflectiveOperationException missing) {
            return Integer.MIN_VALUE;
        }
    }

    /** A call's declaration stands in the class sign by sign, parameters' names too. */
    private void calls() {
        for (String line : face.subList(2, face.size() - 1)) {
            stands("    " + line.substring(0, line.length() - 1) + " {");
        }
        long open = Arrays.stream(MiceRegisters.class.getDeclaredMethods()).filter(FaceTest::isOpen).count();
        c.due("calls, how many", open, face.size() - 4);
    }

    private static boolean isOpen(Method method) {
        return !Modifier.isPrivate(method.getModifiers()) && !method.isSynthetic();
    }

    /** A promise names its call as the face does; the constructor has the first one. */
    private void promises() {
        Matcher promise = Pattern.compile("## Promise (\\d+): ([a-z]+|A new object)\n\n`([^`]+)`: ").matcher(document);
        int number = 0;
        while (promise.find()) {
            number++;
            c.due("the next promise", Integer.parseInt(promise.group(1)), number);
            String declared = "public " + promise.group(3) + ";";
            c.due("promise " + number + " is of " + declared, face.indexOf(declared), number + 1);
        }
        c.due("promises, how many", number, 43);
        c.due("promises are as many as calls", number, face.size() - 3);
    }
}
