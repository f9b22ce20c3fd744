/** Promises 1 to 9: a new object, rows, texts. */
public final class RowsTest {
    private static final int MIN = Integer.MIN_VALUE, MAX = Integer.MAX_VALUE;
    private static final Checks c = new Checks("RowsTest");

    public static void main(String[] args) {
        newObject();
        row();
        lay();
        at();
        tear();
        copy();
        mean();
        text();
        put();
        c.end();
    }

    private static void newObject() {
        MiceRegisters x = new MiceRegisters();
        for (int what = 0; what < 14; what++) {
            c.due("1: count(" + what + ")", x.count(what), what == 7 ? -9 : 0);
        }
        for (int r = 0; r < 6; r++) {
            final int row = r;
            c.found("1: tear(" + r + ")", x, () -> x.tear(row), 1);
        }
        for (int t = 0; t < 4; t++) {
            final int text = t;
            c.found("1: fault(" + t + ")", x, () -> x.fault(text), 1);
        }
        c.due("1: line(0, 0)", x.line(0, 0), -1);
        c.due("1: mouse(0, 0)", x.mouse(0, 0), -1);
        c.due("1: asked()", x.asked(), 0);
        c.due("1: upper()", x.upper(), 0);
        c.due("1: lower()", x.lower(), 1);
    }

    private static void row() {
        MiceRegisters x = new MiceRegisters();
        c.due("2: row(-1, 0)", x.row(-1, 0), -1);
        c.due("2: row(6, 0)", x.row(6, 0), -1);
        c.due("2: row(6, -1)", x.row(6, -1), -1);
        c.due("2: row(0, 41)", x.row(0, 41), -1);
        c.due("2: row(0, MAX)", x.row(0, MAX), -1);
        c.due("2: finding()", x.finding(), 0);
        c.found("2: row(0, -1)", x, () -> x.row(0, -1), 5);
        c.found("2: row(5, MIN)", x, () -> x.row(5, MIN), 5);
        c.due("2: no row yet", x.count(11), 0);
        c.due("2: row(0, 40)", x.row(0, 40), 40);
        c.due("2: row(5, 0)", x.row(5, 0), 0);
        c.due("2: two rows", x.count(11), 2);
        x.lay(0, 0, 7);
        x.lay(0, 39, 8);
        c.found("2: row(0, -1), there", x, () -> x.row(0, -1), 5);
        c.told("2: refused, changes nothing", x, x.at(0, 39), 1, 8);
        c.due("2: row(0, 40) anew", x.row(0, 40), 40);
        c.told("2: anew, place 0", x, x.at(0, 0), 1, 0);
        c.told("2: anew, place 39", x, x.at(0, 39), 1, 0);
        x.lay(0, 5, 9);
        x.row(0, 2);
        x.row(0, 10);
        c.told("2: shorter, then longer", x, x.at(0, 5), 1, 0);
    }

    private static void lay() {
        MiceRegisters x = new MiceRegisters();
        c.due("3: lay(6, 0, 1)", x.lay(6, 0, 1), -1);
        c.due("3: lay(-1, 0, 1)", x.lay(-1, 0, 1), -1);
        c.found("3: lay(0, 0, 1), missing", x, () -> x.lay(0, 0, 1), 1);
        x.row(0, 3);
        c.found("3: lay(0, 3, 1)", x, () -> x.lay(0, 3, 1), 2);
        c.found("3: lay(0, -1, 1)", x, () -> x.lay(0, -1, 1), 2);
        c.told("3: lay(0, 2, MIN)", x, x.lay(0, 2, MIN), 1, 0);
        c.told("3: lay(0, 2, MAX)", x, x.lay(0, 2, MAX), 1, MIN);
        c.told("3: at(0, 2)", x, x.at(0, 2), 1, MAX);
        c.told("3: at(0, 1)", x, x.at(0, 1), 1, 0);
    }

    private static void at() {
        MiceRegisters x = new MiceRegisters();
        c.due("4: at(6, 0)", x.at(6, 0), -1);
        c.due("4: at(-1, 0)", x.at(-1, 0), -1);
        c.found("4: at(5, 0), missing", x, () -> x.at(5, 0), 1);
        Checks.fill(x, 5, 4, -5, 6);
        c.told("4: at(5, 1)", x, x.at(5, 1), 1, -5);
        c.found("4: at(5, 3)", x, () -> x.at(5, 3), 2);
        c.found("4: at(5, -1)", x, () -> x.at(5, -1), 2);
        c.due("4: refused, asked() stays", x.asked(), -5);
    }

    private static void tear() {
        MiceRegisters x = new MiceRegisters();
        c.due("5: tear(6)", x.tear(6), -1);
        c.due("5: tear(-1)", x.tear(-1), -1);
        c.found("5: tear(2), missing", x, () -> x.tear(2), 1);
        x.row(2, 0);
        c.due("5: tear(2)", x.tear(2), 1);
        c.due("5: gone", x.count(11), 0);
        c.found("5: tear(2) again", x, () -> x.tear(2), 1);
    }

    private static void copy() {
        MiceRegisters x = new MiceRegisters();
        c.due("6: copy(6, 0, 0, 0, -1)", x.copy(6, 0, 0, 0, -1), -1);
        c.due("6: copy(0, 0, -1, 0, -1)", x.copy(0, 0, -1, 0, -1), -1);
        c.found("6: n below 0 ahead of missing", x, () -> x.copy(0, 0, 1, 0, -1), 5);
        c.found("6: both missing", x, () -> x.copy(0, 0, 1, 0, 0), 1);
        Checks.fill(x, 0, 1, 2, 3, 4, 5);
        c.found("6: the other missing", x, () -> x.copy(0, 0, 1, 0, 9), 1);
        c.found("6: the first missing", x, () -> x.copy(1, 0, 0, 0, 9), 1);
        Checks.fill(x, 1, 9, 9, 9);
        c.found("6: from beyond", x, () -> x.copy(0, 4, 1, 0, 2), 2);
        c.found("6: to beyond", x, () -> x.copy(0, 0, 1, 2, 2), 2);
        c.found("6: from below", x, () -> x.copy(0, -1, 1, 0, 1), 2);
        c.found("6: to below", x, () -> x.copy(0, 0, 1, -1, 1), 2);
        c.found("6: far too many", x, () -> x.copy(0, 1, 1, 0, MAX), 2);
        c.found("6: far beyond", x, () -> x.copy(0, MAX, 1, 0, MAX), 2);
        c.found("6: none, but from beyond", x, () -> x.copy(0, 6, 1, 0, 0), 2);
        c.due("6: none, at the end", x.copy(0, 5, 1, 3, 0), 1);
        c.due("6: copy(0, 3, 1, 1, 2)", x.copy(0, 3, 1, 1, 2), 1);
        rowIs("6: another row", x, 1, 9, 4, 5);
        c.due("6: copy(0, 0, 0, 1, 4)", x.copy(0, 0, 0, 1, 4), 1);
        rowIs("6: itself, up", x, 0, 1, 1, 2, 3, 4);
        c.due("6: copy(0, 2, 0, 0, 3)", x.copy(0, 2, 0, 0, 3), 1);
        rowIs("6: itself, down", x, 0, 2, 3, 4, 3, 4);
    }

    private static void rowIs(String what, MiceRegisters x, int r, int... places) {
        for (int i = 0; i < places.length; i++) {
            c.told(what + ", place " + i, x, x.at(r, i), 1, places[i]);
        }
    }

    private static void mean() {
        MiceRegisters x = new MiceRegisters();
        c.due("7: mean(6)", x.mean(6), -1);
        c.due("7: mean(-1)", x.mean(-1), -1);
        c.found("7: missing", x, () -> x.mean(0), 1);
        x.row(0, 0);
        c.found("7: of none", x, () -> x.mean(0), 4);
        Checks.fill(x, 0, -3);
        c.told("7: of one", x, x.mean(0), 1, -3);
        Checks.fill(x, 0, 5, 6, 6);
        c.told("7: cut", x, x.mean(0), 1, 5);
        Checks.fill(x, 0, -5, -6, -6);
        c.told("7: below 0, cut", x, x.mean(0), 1, -5);
        Checks.fill(x, 0, MAX, MAX, MAX);
        c.told("7: greatest", x, x.mean(0), 1, MAX);
        Checks.fill(x, 0, MIN, MIN);
        c.told("7: least", x, x.mean(0), 1, MIN);
    }

    private static void text() {
        MiceRegisters x = new MiceRegisters();
        c.due("8: text(-1, 1)", x.text(-1, 1), -1);
        c.due("8: text(4, 1)", x.text(4, 1), -1);
        c.due("8: text(4, -1)", x.text(4, -1), -1);
        c.due("8: text(0, 61)", x.text(0, 61), -1);
        c.found("8: text(0, -1)", x, () -> x.text(0, -1), 5);
        c.due("8: none yet", x.count(12), 0);
        c.due("8: text(3, 60)", x.text(3, 60), 60);
        c.due("8: text(0, 0)", x.text(0, 0), 0);
        c.due("8: two", x.count(12), 2);
        c.due("8: blank at 59", x.put(3, 59, 1), 1032);
        c.due("8: anew", x.text(3, 60), 60);
        c.due("8: blank again", x.put(3, 59, 1), 1032);
    }

    private static void put() {
        MiceRegisters x = new MiceRegisters();
        c.due("9: put(4, 0, 1)", x.put(4, 0, 1), -1);
        c.due("9: put(-1, 0, 1)", x.put(-1, 0, 1), -1);
        c.found("9: missing", x, () -> x.put(0, 0, 1), 1);
        x.text(0, 2);
        c.found("9: put(0, 2, 1)", x, () -> x.put(0, 2, 1), 2);
        c.found("9: put(0, -1, 1)", x, () -> x.put(0, -1, 1), 2);
        c.due("9: first", x.put(0, 1, 127), 1032);
        c.due("9: was 127", x.put(0, 1, 128), 1127);
        c.due("9: 128 cut", x.put(0, 1, 255), 872);
        c.due("9: 255 cut", x.put(0, 1, 256 + 65), 999);
        c.due("9: 321 cut", x.put(0, 1, MIN), 1065);
        c.due("9: MIN cut", x.put(0, 1, 0), 1000);
        c.due("9: the other stays", x.put(0, 0, 0), 1032);
        c.due("9: asked() is not told", x.asked(), 0);
    }
}
