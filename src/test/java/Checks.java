/** Counts answers that are as due and tells those that are not. */
final class Checks {
    private final String name;
    private int right = 0;
    private int wrong = 0;

    Checks(String name) {
        this.name = name;
    }

    void due(String what, long got, long want) {
        if (got == want) {
            right++;
        } else {
            wrong++;
            System.out.println(name + ": " + what + " answered " + got + ", due is " + want);
        }
    }

    /** A call that is refused by a FINDING: what it answers, which one, and that it was counted once. */
    void found(String what, MiceRegisters x, java.util.function.IntSupplier call, int finding) {
        int before = x.findings(finding);
        due(what, call.getAsInt(), MiceRegisters.FINDING);
        due(what + ", finding()", x.finding(), finding);
        due(what + ", findings(" + finding + ")", x.findings(finding), before + 1);
    }

    /** A call that tells by asked(). */
    void told(String what, MiceRegisters x, int answer, int want, int asked) {
        due(what, answer, want);
        due(what + ", asked()", x.asked(), asked);
    }

    /** A call that tells by upper() and lower(). */
    void parts(String what, MiceRegisters x, int answer, long upper, long lower) {
        due(what, answer, 1);
        due(what + ", upper()", x.upper(), upper);
        due(what + ", lower()", x.lower(), lower);
    }

    void end() {
        System.out.println(name + ": " + right + " answers as due, " + wrong + " not");
        if (wrong != 0 || right == 0) {
            System.exit(1);
        }
    }

    static void write(MiceRegisters x, int t, String text) {
        x.text(t, text.length());
        for (int i = 0; i < text.length(); i++) {
            x.put(t, i, text.charAt(i));
        }
    }

    static MiceRegisters with(String text) {
        MiceRegisters x = new MiceRegisters();
        write(x, 0, text);
        if (x.register(0) < 1) {
            throw new IllegalStateException("no register: " + text);
        }
        return x;
    }

    static void fill(MiceRegisters x, int r, int... places) {
        x.row(r, places.length);
        for (int i = 0; i < places.length; i++) {
            x.lay(r, i, places[i]);
        }
    }

    static int line(MiceRegisters x, int l, int what) {
        return x.line(l, what) == 1 ? x.asked() : Integer.MIN_VALUE;
    }

    static int mouse(MiceRegisters x, int i, int what) {
        return x.mouse(i, what) == 1 ? x.asked() : Integer.MIN_VALUE;
    }
}
