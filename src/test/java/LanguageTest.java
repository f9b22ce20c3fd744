import java.io.IOException;
import java.lang.reflect.Constructor;
import java.lang.reflect.Field;
import java.lang.reflect.Method;
import java.lang.reflect.Modifier;
import java.nio.file.Files;
import java.util.Set;
import java.util.TreeSet;

/** The face of the document, what LANGUAGE.md forbids, and the room that calls take. */
public final class LanguageTest {
    private static final Checks c = new Checks("LanguageTest");
    private static final String FACE = "row:int,2 lay:int,3 at:int,2 tear:int,1 copy:int,5 mean:int,1 text:int,2 put:int,3 "
            + "fault:int,1 register:int,1 line:int,2 mouse:int,2 mark:int,2 year:int,0 cheese:int,2 cat:int,1 wax:int,1 "
            + "undo:int,1 keep:int,1 on:int,1 likes:int,4 left:int,2 eaten:int,1 when:int,1 save:int,2 guard:int,1 "
            + "places:int,2 kinds:int,2 look:int,2 sets:int,1 sure:int,1 duel:int,3 odds:int,2 mid:int,1 lots:int,2 "
            + "asked:int,0 upper:long,0 lower:long,0 count:int,1 finding:int,0 findings:int,1 digest:long,0";
    private static final String[] WORDS = {"throw", "throws", "try", "catch", "finally", "synchronized", "assert", "import",
        "package", "protected", "System.out", "->", "::", "Exact(", "Random", "Thread", "Object", "transient", "volatile", "native"};

    public static void main(String[] args) throws IOException {
        face();
        insides();
        words();
        room();
        c.end();
    }

    private static void face() {
        Set<String> methods = new TreeSet<>();
        for (Method m : MiceRegisters.class.getDeclaredMethods()) {
            if (!Modifier.isPrivate(m.getModifiers()) && !m.isSynthetic()) {
                boolean plain = m.getModifiers() == Modifier.PUBLIC;
                for (Class<?> parameter : m.getParameterTypes()) {
                    plain &= parameter == int.class;
                }
                methods.add(m.getName() + ":" + m.getReturnType() + "," + m.getParameterCount() + (plain ? "" : " not as told"));
            }
        }
        same("methods", methods, new TreeSet<>(Set.of(FACE.split(" "))));
        Set<String> fields = new TreeSet<>();
        for (Field f : MiceRegisters.class.getDeclaredFields()) {
            if (!Modifier.isPrivate(f.getModifiers())) {
                fields.add(f.getName());
            }
        }
        same("constants", fields, new TreeSet<>(Set.of("BAD", "FULL", "FINDING", "STATE", "SPENT", "NONE")));
        Constructor<?>[] constructors = MiceRegisters.class.getDeclaredConstructors();
        c.due("constructors", constructors.length, 1);
        c.due("the constructor", constructors[0].getModifiers(), Modifier.PUBLIC);
        c.due("the class", MiceRegisters.class.getModifiers(), Modifier.PUBLIC | Modifier.FINAL);
        c.due("BAD", MiceRegisters.BAD, -1);
        c.due("FULL", MiceRegisters.FULL, -2);
        c.due("FINDING", MiceRegisters.FINDING, -3);
        c.due("STATE", MiceRegisters.STATE, -4);
        c.due("SPENT", MiceRegisters.SPENT, -6);
        c.due("NONE", MiceRegisters.NONE, -9);
    }

    private static void same(String what, Set<String> got, Set<String> want) {
        if (!got.equals(want)) {
            System.out.println(what + " are " + got + ", due are " + want);
        }
        c.due(what + " are as told", got.equals(want) ? 1 : 0, 1);
    }

    private static void insides() {
        Set<String> names = new TreeSet<>();
        for (Method m : MiceRegisters.class.getDeclaredMethods()) {
            if (Modifier.isPublic(m.getModifiers())) {
                names.add(m.getName());
            }
        }
        privateNames(MiceRegisters.class, names);
        for (Class<?> inside : MiceRegisters.class.getDeclaredClasses()) {
            c.due(inside.getName() + " is static", Modifier.isStatic(inside.getModifiers()) ? 1 : 0, 1);
            privateNames(inside, names);
        }
        for (Field f : MiceRegisters.class.getDeclaredFields()) {
            boolean isFinal = Modifier.isFinal(f.getModifiers());
            c.due(f.getName() + ", if static, is final", Modifier.isStatic(f.getModifiers()) && !isFinal ? 1 : 0, 0);
        }
    }

    private static void privateNames(Class<?> where, Set<String> names) {
        for (Method m : where.getDeclaredMethods()) {
            boolean isFace = where == MiceRegisters.class && Modifier.isPublic(m.getModifiers());
            c.due(m.getName() + " bears a public one's name", !isFace && names.contains(m.getName()) ? 1 : 0, 0);
            c.due(m.getName() + " takes seven at most", m.getParameterCount() <= 7 ? 1 : 0, 1);
        }
    }

    private static void words() throws IOException {
        String source = Files.readString(Sources.main()).replaceAll("(?s)/\\*.*?\\*/", "").replaceAll("//.*", "");
        for (String word : WORDS) {
            boolean isWord = Character.isLetter(word.charAt(0)) && Character.isLetter(word.charAt(word.length() - 1));
            String quoted = java.util.regex.Pattern.quote(word);
            String pattern = isWord ? "\\b" + quoted + "\\b" : quoted;
            c.due("'" + word + "' stands there", java.util.regex.Pattern.compile(pattern).matcher(source).find() ? 1 : 0, 0);
        }
        c.due("all signs are plain", source.chars().allMatch(ch -> ch == 10 || ch >= 32 && ch < 127) ? 1 : 0, 1);
    }

    /** What a run makes is counted: so no call makes anything, the constructor makes it all. */
    private static void room() {
        com.sun.management.ThreadMXBean bean =
                (com.sun.management.ThreadMXBean) java.lang.management.ManagementFactory.getThreadMXBean();
        long id = Thread.currentThread().getId();
        MiceRegisters x = Checks.with("rl540l340l740l840l140l240l940l540m03w02g41y71");
        long least = Long.MAX_VALUE;
        // the measuring itself makes something at first: the least of some rounds is the calls' own
        for (int round = 0; round < 10; round++) {
            long before = bean.getThreadAllocatedBytes(id);
            everyCall(x);
            least = Math.min(least, bean.getThreadAllocatedBytes(id) - before);
        }
        c.due("bytes made by calls", least, 0);
        long before = bean.getThreadAllocatedBytes(id);
        new MiceRegisters();
        c.due("bytes made by a constructor", bean.getThreadAllocatedBytes(id) - before < 16000 ? 1 : 0, 1);
    }

    private static void everyCall(MiceRegisters x) {
        x.row(0, 3);
        x.lay(0, 1, 2);
        x.at(0, 1);
        x.copy(0, 0, 0, 1, 2);
        x.mean(0);
        x.fault(0);
        x.register(0);
        x.line(0, 5);
        x.mouse(0, 4);
        x.mark(1, 4);
        x.year();
        x.cheese(3, 4);
        x.cat(2);
        x.wax(1);
        x.keep(0);
        x.undo(2);
        x.on(0);
        x.likes(0, 1, 1, 1);
        x.left(0, 40);
        x.eaten(40);
        x.when(0);
        x.save(6, 20);
        x.guard(20);
        x.places(0, 0);
        x.kinds(0, 0);
        x.look(0, 0);
        x.sets(80);
        x.sure(80);
        x.duel(0, 6, 2);
        x.odds(0, 5);
        x.mid(5);
        x.lots(20, 7);
        x.digest();
        x.count(4);
        x.tear(0);
        x.text(3, 60);
        x.put(3, 1, 1);
    }
}
