import java.util.Arrays;
import java.util.function.IntSupplier;

/** Checks by sentence: every answer stands under the words of the document that ask for it. */
final class Edges {
    private static final int FINDING_SHOWN = 4;

    private final Checks checks;
    private final Doc doc = Doc.read();
    private int promise = -1;
    private String words = "";

    Edges(String name) {
        checks = new Checks(name);
    }

    /** From here on a promise of the document (0: its terms), up to the next one. */
    void promise(int number) {
        endPromise();
        promise = number;
    }

    /** From here on what these words of the promise ask for. */
    void says(String quote) {
        words = promise + ", '" + quote + "': ";
        checks.due(words + "stands in the document", doc.quote(promise, quote) ? 1 : 0, 1);
    }

    void due(String call, long got, long want) {
        checks.due(words + call, got, want);
    }

    void told(String call, MiceRegisters x, int answer, int want, int asked) {
        checks.told(words + call, x, answer, want, asked);
    }

    void parts(String call, MiceRegisters x, int answer, long upper, long lower) {
        checks.parts(words + call, x, answer, upper, lower);
    }

    /** A call that changes nothing at all: also what is told stays. */
    void still(String call, MiceRegisters x, IntSupplier asking, int want) {
        long[] before = shown(x);
        due(call, asking.getAsInt(), want);
        due(call + ", all stays (" + Arrays.toString(before) + ", then " + Arrays.toString(shown(x)) + ")",
                Arrays.equals(before, shown(x)) ? 1 : 0, 1);
    }

    void bad(String call, MiceRegisters x, IntSupplier asking) {
        still(call, x, asking, MiceRegisters.BAD);
    }

    void state(String call, MiceRegisters x, IntSupplier asking) {
        still(call, x, asking, MiceRegisters.STATE);
    }

    void full(String call, MiceRegisters x, IntSupplier asking) {
        still(call, x, asking, MiceRegisters.FULL);
    }

    /** A call that a FINDING refuses: nothing changes but finding() and how often that one was answered. */
    void found(String call, MiceRegisters x, IntSupplier asking, int finding) {
        long[] wanted = shown(x);
        wanted[FINDING_SHOWN] = finding;
        wanted[FINDING_SHOWN + finding]++;
        due(call, asking.getAsInt(), MiceRegisters.FINDING);
        due(call + ", what is told (" + Arrays.toString(shown(x)) + ", due " + Arrays.toString(wanted) + ")",
                Arrays.equals(wanted, shown(x)) ? 1 : 0, 1);
    }

    private static long[] shown(MiceRegisters x) {
        return new long[] {x.digest(), x.asked(), x.upper(), x.lower(), x.finding(),
            x.findings(1), x.findings(2), x.findings(3), x.findings(4), x.findings(5)};
    }

    /** Every word of a promise is quoted by some test of it. */
    private void endPromise() {
        if (promise >= 0) {
            String rest = doc.notQuoted(promise);
            checks.due(promise + ": not quoted '" + rest + "'", rest.length(), 0);
        }
    }

    void end() {
        endPromise();
        checks.end();
    }
}
