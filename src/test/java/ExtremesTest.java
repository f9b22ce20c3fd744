import java.lang.reflect.InvocationTargetException;
import java.lang.reflect.Method;
import java.lang.reflect.Modifier;

/** Every call, with every mix of edges as its arguments, in REGISTERS of several sizes: none throws, and Plain answers the same. */
public final class ExtremesTest {
    private static final Checks c = new Checks("ExtremesTest");
    private static final int[] EDGES = {Integer.MIN_VALUE, -10, -9, -1, 0, 1, 2, 3, 4, 5, 6, 7, 8, 9, 10, 12, 13, 14, 20, 21,
        40, 41, 60, 61, 320, 321, 2147483646, Integer.MAX_VALUE};
    private static final int[] FEW = {Integer.MIN_VALUE, -1, 0, 1, 7, 8, 20, 21, Integer.MAX_VALUE};
    private static final int[] FEWER = {Integer.MIN_VALUE, -1, 0, 1, 3, 5, 6, Integer.MAX_VALUE};
    private static final int[] OF_DUEL = {-1, 0, 1, 2, 3, 7, 8};
    private static final String[] TEXTS = {null, "rl501m01", "rl540l301l902 y02h19w23g04",
        "rl909l008l417l326l535l604l713l840 o73g11m59h22"};
    private static final int CALLS_AT_ONCE = 400;

    private final String text;
    private final Method ofClass;
    private final Method ofPlain;
    private MiceRegisters x;
    private Plain y;
    private int calls;

    private ExtremesTest(String text, Method ofClass) throws NoSuchMethodException {
        this.text = text;
        this.ofClass = ofClass;
        ofPlain = Plain.class.getDeclaredMethod(ofClass.getName(), ofClass.getParameterTypes());
    }

    public static void main(String[] args) throws ReflectiveOperationException {
        for (Method method : MiceRegisters.class.getDeclaredMethods()) {
            if (Modifier.isPublic(method.getModifiers())) {
                for (String text : TEXTS) {
                    new ExtremesTest(text, method).all();
                }
            }
        }
        c.end();
    }

    private int[] edges() {
        if (ofClass.getName().equals("duel")) {
            return OF_DUEL;
        }
        int many = ofClass.getParameterCount();
        return many <= 2 ? EDGES : many <= 4 ? FEW : FEWER;
    }

    private void all() throws ReflectiveOperationException {
        int[] edges = edges();
        int mixes = 1;
        for (int n = 0; n < ofClass.getParameterCount(); n++) {
            mixes *= edges.length;
        }
        for (int mix = 0; mix < mixes; mix++) {
            if (mix % CALLS_AT_ONCE == 0) {
                begin();
            }
            Object[] arguments = new Object[ofClass.getParameterCount()];
            int rest = mix;
            for (int n = 0; n < arguments.length; n++) {
                arguments[n] = edges[rest % edges.length];
                rest /= edges.length;
            }
            call(arguments);
        }
    }

    /** The same beginning for both: ROWS and TEXTS of some sizes, DEEDS done, a REGISTER kept. */
    private void begin() {
        x = new MiceRegisters();
        y = new Plain();
        for (int i = 0; text != null && i < text.length(); i++) {
            if (i == 0) {
                x.text(0, text.length());
                y.text(0, text.length());
            }
            x.put(0, i, text.charAt(i));
            y.put(0, i, text.charAt(i));
        }
        x.register(0);
        y.register(0);
        for (int r = 0; r < 5; r++) {
            int size = new int[] {40, 10, 1, 0, 11}[r];
            x.row(r, size);
            y.row(r, size);
        }
        x.text(1, 60);
        y.text(1, 60);
        x.cheese(0, 9);
        y.cheese(0, 9);
        x.year();
        y.year();
        x.cat(1);
        y.cat(1);
        x.wax(2);
        y.wax(2);
        x.keep(1);
        y.keep(1);
    }

    private void call(Object[] arguments) throws ReflectiveOperationException {
        String name = ofClass.getName() + java.util.Arrays.toString(arguments) + " of " + text;
        try {
            long got = ((Number) ofClass.invoke(x, arguments)).longValue();
            c.due(name, got, ((Number) ofPlain.invoke(y, arguments)).longValue());
        } catch (InvocationTargetException thrown) {
            c.due(name + " threw " + thrown.getCause(), 1, 0);
        }
        c.due(name + ", finding()", x.finding(), y.finding());
        c.due(name + ", asked()", x.asked(), y.asked());
        if (calls++ % 16 == 0) {
            c.due(name + ", digest()", x.digest(), y.digest());
            c.due(name + ", upper()", x.upper(), y.upper());
            c.due(name + ", lower()", x.lower(), y.lower());
        }
    }
}
