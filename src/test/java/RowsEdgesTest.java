/** Promises 1 to 9, sentence by sentence, at each edge and on both sides of it. */
public final class RowsEdgesTest {
    private static final int MIN = Integer.MIN_VALUE, MAX = Integer.MAX_VALUE;
    private static final int NOTHING = 1, BEYOND = 2, NOUGHT = 4, SIZE = 5;
    private static final int[] NO_ROWS = {-1, 6, MIN, MAX};
    private static final int[] NO_TEXTS = {-1, 4, MIN, MAX};
    private static final Edges e = new Edges("RowsEdgesTest");

    public static void main(String[] args) {
        newObject();
        row();
        lay();
        at();
        tear();
        copyOf();
        copyRefused();
        mean();
        text();
        put();
        e.end();
    }

    private static void newObject() {
        MiceRegisters x = new MiceRegisters();
        e.promise(1);
        e.says("No ROWS, TEXTS, LINES, MICE.");
        e.due("ROWS", x.count(11), 0);
        e.due("TEXTS", x.count(12), 0);
        e.due("LINES", x.count(0), 0);
        e.due("MICE", x.count(1), 0);
        for (int n = 0; n < 6; n++) {
            final int r = n;
            e.found("at(" + r + ", 0)", x, () -> x.at(r, 0), NOTHING);
        }
        for (int n = 0; n < 4; n++) {
            final int t = n;
            e.found("put(" + t + ", 0, 1)", x, () -> x.put(t, 0, 1), NOTHING);
        }
        e.bad("line(0, 0)", x, () -> x.line(0, 0));
        e.bad("mouse(0, 0)", x, () -> x.mouse(0, 0));
    }

    private static void row() {
        MiceRegisters x = new MiceRegisters();
        e.promise(2);
        e.says("A ROW is there with n ints 0: n.");
        for (int n : new int[] {0, 1, 39, 40}) {
            e.due("row(0, " + n + ")", x.row(0, n), n);
            e.due("it is there", x.count(11), 1);
            for (int i = 0; i < n; i++) {
                e.told("at(0, " + i + ")", x, x.at(0, i), 1, 0);
                x.lay(0, i, 7);
            }
            e.found("at(0, " + n + ") of " + n, x, () -> x.at(0, n), BEYOND);
        }
        e.due("shorter", x.row(0, 3), 3);
        e.told("shorter, the last one", x, x.at(0, 2), 1, 0);
        e.found("shorter, behind it", x, () -> x.at(0, 3), BEYOND);
        e.due("longer again", x.row(0, 5), 5);
        e.told("longer again, what was there is gone", x, x.at(0, 4), 1, 0);
        e.due("row(5, 2)", x.row(5, 2), 2);
        e.says("BAD: also n above 40");
        for (int r : NO_ROWS) {
            e.bad("row(" + r + ", 0)", x, () -> x.row(r, 0));
            e.bad("row(" + r + ", -1), ahead of SIZE", x, () -> x.row(r, -1));
        }
        e.bad("row(0, 41)", x, () -> x.row(0, 41));
        e.bad("row(1, 41), missing", x, () -> x.row(1, 41));
        e.bad("row(0, MAX)", x, () -> x.row(0, MAX));
        e.due("row(0, 40)", x.row(0, 40), 40);
        e.says("SIZE: below 0.");
        e.found("row(0, -1)", x, () -> x.row(0, -1), SIZE);
        e.found("row(0, MIN)", x, () -> x.row(0, MIN), SIZE);
        e.found("row(1, -1), missing", x, () -> x.row(1, -1), SIZE);
        e.due("row(0, 0)", x.row(0, 0), 0);
    }

    private static void lay() {
        MiceRegisters x = new MiceRegisters();
        x.row(0, 1);
        x.row(5, 40);
        x.row(4, 0);
        x.row(3, 4);
        x.tear(3);
        e.promise(3);
        e.says("Place i of a ROW is v: what it was, told by asked(): 1.");
        e.told("lay(0, 0, MIN)", x, x.lay(0, 0, MIN), 1, 0);
        e.told("lay(0, 0, MAX)", x, x.lay(0, 0, MAX), 1, MIN);
        e.told("lay(0, 0, -3)", x, x.lay(0, 0, -3), 1, MAX);
        e.told("lay(0, 0, -3), the same again", x, x.lay(0, 0, -3), 1, -3);
        e.told("lay(5, 0, 8)", x, x.lay(5, 0, 8), 1, 0);
        e.told("lay(5, 39, 9)", x, x.lay(5, 39, 9), 1, 0);
        e.told("place 0 is as laid", x, x.at(5, 0), 1, 8);
        e.told("place 1 is as it was", x, x.at(5, 1), 1, 0);
        e.told("place 39 is as laid", x, x.at(5, 39), 1, 9);
        e.says("BAD; NOTHING; BEYOND.");
        for (int r : NO_ROWS) {
            e.bad("lay(" + r + ", 0, 1)", x, () -> x.lay(r, 0, 1));
        }
        e.found("missing", x, () -> x.lay(2, 0, 1), NOTHING);
        e.found("torn", x, () -> x.lay(3, 0, 1), NOTHING);
        e.found("missing, and no such place", x, () -> x.lay(2, -1, 1), NOTHING);
        e.found("lay(0, 1, 1) of 1", x, () -> x.lay(0, 1, 1), BEYOND);
        e.found("lay(4, 0, 1) of 0", x, () -> x.lay(4, 0, 1), BEYOND);
        for (int i : new int[] {-1, 40, MIN, MAX}) {
            e.found("lay(5, " + i + ", 1) of 40", x, () -> x.lay(5, i, 1), BEYOND);
        }
    }

    private static void at() {
        MiceRegisters x = new MiceRegisters();
        Checks.fill(x, 0, MIN, 0, MAX);
        x.row(5, 40);
        x.lay(5, 39, -1);
        x.row(4, 0);
        x.row(3, 4);
        x.tear(3);
        e.promise(4);
        e.says("Place i of a ROW, told by asked(): 1.");
        e.told("at(0, 0)", x, x.at(0, 0), 1, MIN);
        e.told("at(0, 1)", x, x.at(0, 1), 1, 0);
        e.told("at(0, 2)", x, x.at(0, 2), 1, MAX);
        e.told("at(5, 39)", x, x.at(5, 39), 1, -1);
        e.says("BAD; NOTHING; BEYOND.");
        for (int r : NO_ROWS) {
            e.bad("at(" + r + ", 0)", x, () -> x.at(r, 0));
        }
        e.found("missing", x, () -> x.at(2, 0), NOTHING);
        e.found("torn", x, () -> x.at(3, 0), NOTHING);
        e.found("missing, and no such place", x, () -> x.at(2, -1), NOTHING);
        e.found("at(4, 0) of 0", x, () -> x.at(4, 0), BEYOND);
        e.found("at(0, 3) of 3", x, () -> x.at(0, 3), BEYOND);
        for (int i : new int[] {-1, 40, MIN, MAX}) {
            e.found("at(5, " + i + ") of 40", x, () -> x.at(5, i), BEYOND);
        }
    }

    private static void tear() {
        MiceRegisters x = new MiceRegisters();
        x.row(0, 0);
        x.row(5, 40);
        x.row(1, 1);
        e.promise(5);
        e.says("A ROW is missing: 1.");
        e.due("tear(0), of 0 ints", x.tear(0), 1);
        e.due("tear(5), of 40", x.tear(5), 1);
        e.due("one is there", x.count(11), 1);
        e.found("at(5, 0)", x, () -> x.at(5, 0), NOTHING);
        e.says("BAD; NOTHING.");
        for (int r : NO_ROWS) {
            e.bad("tear(" + r + ")", x, () -> x.tear(r));
        }
        e.found("at first", x, () -> x.tear(2), NOTHING);
        e.found("torn already", x, () -> x.tear(0), NOTHING);
        x.row(5, 1);
        e.due("there again", x.tear(5), 1);
    }

    private static void copyOf() {
        MiceRegisters x = new MiceRegisters();
        Checks.fill(x, 0, 1, 2, 3, 4, 5);
        Checks.fill(x, 5, 9, 9, 9);
        e.promise(6);
        e.says("n places of a ROW, from one on, come to those of another one (perhaps itself) from one on");
        e.due("none, from the end to the end", x.copy(0, 5, 5, 3, 0), 1);
        rowIs("none", x, 5, 9, 9, 9);
        e.due("the first one to the last", x.copy(0, 0, 5, 2, 1), 1);
        rowIs("the first one to the last", x, 5, 9, 9, 1);
        e.due("the last one to the first", x.copy(0, 4, 5, 0, 1), 1);
        rowIs("the last one to the first", x, 5, 5, 9, 1);
        e.due("as many as there are", x.copy(5, 0, 0, 2, 3), 1);
        rowIs("as many as there are", x, 0, 1, 2, 5, 9, 1);
        rowIs("from there nothing goes", x, 5, 5, 9, 1);
        x.row(1, 40);
        x.row(2, 40);
        x.lay(1, 0, 6);
        x.lay(1, 39, 7);
        e.due("40 places", x.copy(1, 0, 2, 0, 40), 1);
        e.told("the first of 40", x, x.at(2, 0), 1, 6);
        e.told("the last of 40", x, x.at(2, 39), 1, 7);
        x.row(3, 0);
        e.due("none of a ROW of 0 ints to itself", x.copy(3, 0, 3, 0, 0), 1);
        e.says("as if taken ahead: 1.");
        Checks.fill(x, 0, 1, 2, 3, 4, 5);
        e.due("up by one", x.copy(0, 0, 0, 1, 4), 1);
        rowIs("up by one", x, 0, 1, 1, 2, 3, 4);
        e.due("down by one", x.copy(0, 1, 0, 0, 4), 1);
        rowIs("down by one", x, 0, 1, 2, 3, 4, 4);
        e.due("in its place", x.copy(0, 0, 0, 0, 5), 1);
        rowIs("in its place", x, 0, 1, 2, 3, 4, 4);
    }

    private static void rowIs(String what, MiceRegisters x, int r, int... places) {
        for (int i = 0; i < places.length; i++) {
            e.told(what + ", place " + i, x, x.at(r, i), 1, places[i]);
        }
    }

    private static void copyRefused() {
        MiceRegisters x = new MiceRegisters();
        Checks.fill(x, 0, 1, 2, 3, 4, 5);
        Checks.fill(x, 5, 9, 9, 9);
        e.says("BAD; SIZE: n below 0;");
        for (int r : NO_ROWS) {
            e.bad("from ROW " + r, x, () -> x.copy(r, 0, 0, 0, 1));
            e.bad("to ROW " + r, x, () -> x.copy(0, 0, r, 0, 1));
            e.bad("from ROW " + r + ", ahead of SIZE", x, () -> x.copy(r, 0, 0, 0, -1));
            e.bad("to ROW " + r + ", ahead of NOTHING", x, () -> x.copy(1, 0, r, 0, 1));
        }
        e.found("n -1", x, () -> x.copy(0, 0, 5, 0, -1), SIZE);
        e.found("n MIN", x, () -> x.copy(0, 0, 5, 0, MIN), SIZE);
        e.found("n -1, ahead of NOTHING", x, () -> x.copy(1, 0, 2, 0, -1), SIZE);
        e.found("n -1, ahead of BEYOND", x, () -> x.copy(0, -1, 5, 9, -1), SIZE);
        e.due("n 0", x.copy(0, 0, 5, 0, 0), 1);
        e.says("NOTHING: either;");
        e.found("the one", x, () -> x.copy(1, 0, 5, 0, 1), NOTHING);
        e.found("the other", x, () -> x.copy(0, 0, 1, 0, 1), NOTHING);
        e.found("both", x, () -> x.copy(1, 0, 2, 0, 0), NOTHING);
        e.found("the one, ahead of BEYOND", x, () -> x.copy(1, 0, 5, 9, 1), NOTHING);
        e.found("the other, ahead of BEYOND", x, () -> x.copy(0, -1, 1, 0, 1), NOTHING);
        e.says("BEYOND: not so many there.");
        e.due("just as many there", x.copy(0, 2, 5, 0, 3), 1);
        e.found("one too many in the one", x, () -> x.copy(0, 3, 5, 0, 3), BEYOND);
        e.found("one too many in the other", x, () -> x.copy(0, 2, 5, 1, 3), BEYOND);
        e.found("from place -1", x, () -> x.copy(0, -1, 5, 0, 1), BEYOND);
        e.found("to place -1", x, () -> x.copy(0, 0, 5, -1, 1), BEYOND);
        e.found("none, from behind the end", x, () -> x.copy(0, 6, 5, 0, 0), BEYOND);
        e.found("none, to behind the end", x, () -> x.copy(0, 0, 5, 4, 0), BEYOND);
        e.found("none, from place -1", x, () -> x.copy(0, -1, 5, 0, 0), BEYOND);
        e.found("MAX of them", x, () -> x.copy(0, 0, 5, 0, MAX), BEYOND);
        e.found("from MAX on, MAX of them", x, () -> x.copy(0, MAX, 5, 0, MAX), BEYOND);
        e.found("from 1 on, MAX of them", x, () -> x.copy(0, 1, 0, 1, MAX), BEYOND);
        e.found("to MAX on", x, () -> x.copy(0, 0, 5, MAX, 1), BEYOND);
        e.found("from MIN on", x, () -> x.copy(0, MIN, 5, 0, 1), BEYOND);
    }

    private static void mean() {
        MiceRegisters x = new MiceRegisters();
        e.promise(7);
        e.says("The mean of a ROW's ints, cut, told by asked(): 1.");
        meanIs(x, -7, -7);
        meanIs(x, 0, 0, 1);
        meanIs(x, 0, 0, -1);
        meanIs(x, 1, 1, 2);
        meanIs(x, -1, -1, -2);
        meanIs(x, 2, 2, 2, 3);
        meanIs(x, -2, -2, -3, -3);
        meanIs(x, 3, 3, 3, 3);
        meanIs(x, 0, MAX, MIN);
        meanIs(x, MAX, MAX, MAX);
        meanIs(x, MIN, MIN, MIN);
        x.row(5, 40);
        for (int i = 0; i < 40; i++) {
            x.lay(5, i, MAX - i % 2);
        }
        e.told("of 40, half of them MAX, half 1 less", x, x.mean(5), 1, MAX - 1);
        e.says("BAD; NOTHING; NOUGHT.");
        for (int r : NO_ROWS) {
            e.bad("mean(" + r + ")", x, () -> x.mean(r));
        }
        e.found("missing", x, () -> x.mean(1), NOTHING);
        x.row(1, 0);
        e.found("of 0 ints", x, () -> x.mean(1), NOUGHT);
        x.row(1, 1);
        e.told("of 1 int", x, x.mean(1), 1, 0);
        x.tear(1);
        e.found("torn", x, () -> x.mean(1), NOTHING);
    }

    private static void meanIs(MiceRegisters x, int want, int... places) {
        Checks.fill(x, 0, places);
        e.told("mean of " + java.util.Arrays.toString(places), x, x.mean(0), 1, want);
    }

    private static void text() {
        MiceRegisters x = new MiceRegisters();
        e.promise(8);
        e.says("A TEXT is there with n blanks: n.");
        for (int n : new int[] {0, 1, 59, 60}) {
            e.due("text(0, " + n + ")", x.text(0, n), n);
            e.due("it is there", x.count(12), 1);
            for (int i = 0; i < n; i++) {
                e.due("put(0, " + i + ", 114)", x.put(0, i, 114), 1032);
            }
            e.found("put(0, " + n + ", 114) of " + n, x, () -> x.put(0, n, 114), BEYOND);
        }
        e.due("shorter", x.text(0, 3), 3);
        e.due("longer again", x.text(0, 5), 5);
        e.due("what was there is gone", x.put(0, 4, 0), 1032);
        e.due("text(3, 2)", x.text(3, 2), 2);
        e.says("BAD: also n above 60");
        for (int t : NO_TEXTS) {
            e.bad("text(" + t + ", 0)", x, () -> x.text(t, 0));
            e.bad("text(" + t + ", -1), ahead of SIZE", x, () -> x.text(t, -1));
        }
        e.bad("text(0, 61)", x, () -> x.text(0, 61));
        e.bad("text(1, 61), missing", x, () -> x.text(1, 61));
        e.bad("text(0, MAX)", x, () -> x.text(0, MAX));
        e.due("text(0, 60)", x.text(0, 60), 60);
        e.says("SIZE: below 0.");
        e.found("text(0, -1)", x, () -> x.text(0, -1), SIZE);
        e.found("text(0, MIN)", x, () -> x.text(0, MIN), SIZE);
        e.found("text(1, -1), missing", x, () -> x.text(1, -1), SIZE);
        e.due("text(0, 0)", x.text(0, 0), 0);
    }

    private static void put() {
        MiceRegisters x = new MiceRegisters();
        x.text(0, 1);
        x.text(3, 60);
        x.text(2, 0);
        e.promise(9);
        e.says("Byte i of a TEXT is v, cut to a byte: what it was, and 1000 more.");
        int[][] cuts = {{127, 127}, {128, -128}, {129, -127}, {255, -1}, {256, 0}, {257, 1}, {-1, -1}, {-128, -128},
            {-129, 127}, {-256, 0}, {MAX, -1}, {MIN, 0}, {0, 0}, {1000, -24}};
        int was = 32;
        for (int[] cut : cuts) {
            e.due("put(0, 0, " + cut[0] + ")", x.put(0, 0, cut[0]), was + 1000);
            was = cut[1];
        }
        e.due("the last cut one", x.put(0, 0, 0), 976);
        e.due("put(3, 0, 5)", x.put(3, 0, 5), 1032);
        e.due("put(3, 59, 6)", x.put(3, 59, 6), 1032);
        e.due("byte 1 is as it was", x.put(3, 1, 32), 1032);
        e.due("byte 0 is as put", x.put(3, 0, 32), 1005);
        e.due("byte 59 is as put", x.put(3, 59, 32), 1006);
        e.due("asked() is not told", x.asked(), 0);
        e.says("BAD; NOTHING; BEYOND.");
        for (int t : NO_TEXTS) {
            e.bad("put(" + t + ", 0, 1)", x, () -> x.put(t, 0, 1));
        }
        e.found("missing", x, () -> x.put(1, 0, 1), NOTHING);
        e.found("missing, and no such place", x, () -> x.put(1, -1, 1), NOTHING);
        e.found("put(0, 1, 1) of 1", x, () -> x.put(0, 1, 1), BEYOND);
        e.found("put(2, 0, 1) of 0", x, () -> x.put(2, 0, 1), BEYOND);
        for (int i : new int[] {-1, 60, MIN, MAX}) {
            e.found("put(3, " + i + ", 1) of 60", x, () -> x.put(3, i, 1), BEYOND);
        }
    }
}
