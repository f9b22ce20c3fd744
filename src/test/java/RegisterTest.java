/** Promises 10 to 14: faults, registers, lines, mice, marks. */
public final class RegisterTest {
    private static final int NONE = MiceRegisters.NONE;
    private static final Checks c = new Checks("RegisterTest");

    public static void main(String[] args) {
        fault();
        register();
        line();
        mouse();
        mark();
        c.end();
    }

    private static void fault() {
        MiceRegisters x = new MiceRegisters();
        c.due("10: fault(4)", x.fault(4), -1);
        c.due("10: fault(-1)", x.fault(-1), -1);
        c.found("10: missing", x, () -> x.fault(3), 1);
        faultIs("", 0);
        faultIs("   ", 3);
        faultIs("r", 1);
        faultIs(" r  ", 4);
        faultIs("l101m01", 0);
        faultIs("  Rl101m01", 2);
        faultIs("rm01l101", 1);
        faultIs("rx", 1);
        faultIs("rrl101m01", 1);
        faultsWithinLine();
        faultsWithinMouse();
        faultsOfOrder();
        faultIs(" ".repeat(60), 60);
        faultIs("rl101" + " ".repeat(54) + "m", 60);
        faultIs("rl101" + " ".repeat(53) + "m0", 60);
        faultIs("rl101" + " ".repeat(54) + "l", 60);
        faultIs("rl101" + " ".repeat(52) + "m01", NONE);
        MiceRegisters z = new MiceRegisters();
        Checks.write(z, 1, "  rl101m01");
        Checks.write(z, 1, "  rl101m");
        c.due("10: what stood behind is gone", z.fault(1), 8);
        Checks.write(z, 1, "  rl101");
        c.due("10: a mouse that stood behind is gone", z.fault(1), 7);
        Checks.write(z, 1, "  ");
        c.due("10: an r that stood behind is gone", z.fault(1), 2);
        MiceRegisters y = new MiceRegisters();
        Checks.write(y, 1, "rl101m01 ");
        y.put(1, 8, 200);
        c.due("10: a byte below 0", y.fault(1), 8);
    }

    private static void faultsWithinLine() {
        faultIs("r l", 3);
        faultIs("r l5", 4);
        faultIs("r l54", 5);
        faultIs("r l59", 5);
        faultIs("r lx20m01", 3);
        faultIs("r l 20m01", 3);
        faultIs("r l/20m01", 3);
        faultIs("r l:20m01", 3);
        faultIs("r l52/m01", 5);
        faultIs("r l5x0m01", 4);
        faultIs("r l5/0m01", 4);
        faultIs("r l5:0m01", 4);
        faultIs("r l52xm01", 5);
        faultIs("r l52 m01", 5);
        faultIs("r l500m01", 4);
        faultIs("r l541m01", 4);
        faultIs("r l599m01", 4);
        faultIs("r l540m01", NONE);
        faultIs("r l501m01", NONE);
        faultIs("r l001m01", NONE);
        faultIs("r l901m01", NONE);
        faultIs("r l510m01", NONE);
    }

    private static void faultsWithinMouse() {
        faultIs("r l520", 6);
        faultIs("r l520  ", 8);
        faultIs("r l520m", 7);
        faultIs("r l520m0", 8);
        faultIs("r l520mx1", 7);
        faultIs("r l520m 1", 7);
        faultIs("r l520m11", 7);
        faultIs("r l520l520m21", 11);
        faultIs("r l520l520m11", NONE);
        faultIs("r l520m00", 8);
        faultIs("r l520m0 ", 8);
        faultIs("r l520m0x", 8);
        faultIs("r l520m0:", 8);
        faultIs("r l520m/1", 7);
        faultIs("r l520m01", NONE);
        faultIs("r l520m09", NONE);
        faultIs("r l520a01", 6);
    }

    private static void faultsOfOrder() {
        String eight = "rl101l101l101l101l101l101l101l101";
        faultIs(eight + "m71", NONE);
        faultIs(eight + "m81", 34);
        faultIs(eight + "l101m01", 33);
        faultIs("rl101m01y01o01h01", NONE);
        faultIs("rl101w01g01y01o01m01", 17);
        faultIs("rl101w01g01y01o01 m", 18);
        faultIs("rl101m01l101", 8);
        faultIs("rl101m01r", 8);
        faultIs("rl101r", 5);
        faultIs("  r  l101  l101  m01  g11  ", NONE);
        faultIs("  r l101 m01 x", 13);
        faultIs(eight + " m01 y11 o21 h31        ", NONE);
    }

    private static void faultIs(String text, int want) {
        MiceRegisters x = new MiceRegisters();
        Checks.write(x, 2, text);
        c.due("10: fault of '" + text + "'", x.fault(2), want);
        c.due("10: it makes no register", x.count(0), 0);
        int got = x.register(2);
        c.due("11: register of '" + text + "'", got, want == NONE ? x.count(1) : MiceRegisters.STATE);
        c.due("11: lines there", x.count(0) > 0 ? 1 : 0, want == NONE ? 1 : 0);
    }

    private static void register() {
        MiceRegisters x = new MiceRegisters();
        c.due("11: register(4)", x.register(4), -1);
        c.due("11: register(-1)", x.register(-1), -1);
        c.found("11: missing", x, () -> x.register(0), 1);
        Checks.write(x, 0, "rl512l003l940 y19g22");
        c.due("11: two mice", x.register(0), 2);
        x.cheese(0, 4);
        x.cat(1);
        x.wax(2);
        x.year();
        x.keep(0);
        Checks.write(x, 1, "r l512 m0");
        long before = x.digest();
        c.due("11: a fault", x.register(1), -4);
        c.due("11: changes nothing", x.digest(), before);
        c.due("11: anew", x.register(0), 2);
        int[] counts = {3, 2, 0, 0, 55, 0, 0, -9, 0, 0, 1, 0, 2, 0};
        for (int what = 0; what < counts.length; what++) {
            c.due("11: anew, count(" + what + ")", x.count(what), counts[what]);
        }
        c.due("11: anew, where mouse 0 is", Checks.mouse(x, 0, 1), 1);
        c.found("11: kept ones are gone", x, () -> x.on(0), 1);
        Checks.write(x, 1, "r l512 h03 m04 o05");
        c.due("11: another one", x.register(1), 3);
        c.due("11: one line", x.count(0), 1);
        c.due("11: no second line", x.line(1, 0), -1);
    }

    private static void line() {
        MiceRegisters x = Checks.with("rl512l003l904m02m13");
        c.due("12: line(-1, 0)", x.line(-1, 0), -1);
        c.due("12: line(3, 0)", x.line(3, 0), -1);
        c.due("12: line(0, -1)", x.line(0, -1), -1);
        c.due("12: line(0, 6)", x.line(0, 6), -1);
        linesAre(x, new int[][] {{5, 12, 12, 0, 0, 0}, {0, 3, 3, 0, 0, 0}, {9, 4, 4, 0, 0, 3}});
        x.cheese(1, 9);
        x.wax(2);
        linesAre(x, new int[][] {{5, 12, 12, 0, 0, 0}, {0, 3, 3, 9, 0, 3}, {9, 4, 4, 0, 1, 0}});
        x.year();
        // mouse 0 ate 2 of line 1, mouse 1 its last one: so both want line 0
        linesAre(x, new int[][] {{5, 12, 12, 0, 0, 3}, {0, 3, 0, 8, 0, 0}, {9, 4, 4, 0, 1, 0}});
    }

    private static void linesAre(MiceRegisters x, int[][] want) {
        for (int l = 0; l < want.length; l++) {
            for (int what = 0; what < 6; what++) {
                c.told("12: line(" + l + ", " + what + ")", x, x.line(l, what), 1, want[l][what]);
            }
        }
    }

    private static void mouse() {
        MiceRegisters x = Checks.with("rl340l440y09o19h02w15");
        c.due("13: mouse(-1, 0)", x.mouse(-1, 0), -1);
        c.due("13: mouse(4, 0)", x.mouse(4, 0), -1);
        c.due("13: mouse(0, -1)", x.mouse(0, -1), -1);
        c.due("13: mouse(0, 5)", x.mouse(0, 5), -1);
        miceAre(x, new int[][] {{1, 0, 9, 9, 1}, {2, 1, 9, 9, 1}, {3, 0, 2, 4, 0}, {4, 1, 5, 3, 1}});
        x.cat(1);
        miceAre(x, new int[][] {{1, 0, 9, 9, 0}, {2, 1, 9, 9, -9}, {3, 0, 2, 4, 0}, {4, 1, 5, 3, -9}});
        MiceRegisters y = Checks.with("rl340l440g09m12w01w08");
        miceAre(y, new int[][] {{5, 0, 9, 18, 0}, {0, 1, 2, 2, 1}, {4, 0, 1, 1, 1}, {4, 0, 8, 5, 1}});
    }

    private static void miceAre(MiceRegisters x, int[][] want) {
        for (int i = 0; i < want.length; i++) {
            for (int what = 0; what < 5; what++) {
                c.told("13: mouse(" + i + ", " + what + ")", x, x.mouse(i, what), 1, want[i][what]);
            }
        }
    }

    private static void mark() {
        MiceRegisters x = Checks.with("rl009l307l408l940 y09 h12 g24 w37");
        c.due("14: mark(-1, 1)", x.mark(-1, 1), -1);
        c.due("14: mark(4, 1)", x.mark(4, 1), -1);
        c.due("14: mark(0, 0)", x.mark(0, 0), -1);
        c.due("14: mark(0, 6)", x.mark(0, 6), -1);
        c.due("14: mark(0, -1)", x.mark(0, -1), -1);
        marksAre(x, new int[][] {{3, -3, -3, -3, -3}, {-3, -3, 2, -3, -3}, {-3, -3, 1, -3, 0}, {-3, 2, -3, 3, -3}});
        MiceRegisters y = Checks.with("rl009l307l408l940 m09 o12 g14 w31");
        y.cheese(0, 3);
        y.cheese(2, 4);
        marksAre(y, new int[][] {{-3, -3, -3, -3, -3}, {-3, 2, -3, -3, -3}, {-3, -3, 1, -3, 7}, {-3, 2, -3, 0, -3}});
        MiceRegisters z = Checks.with("rl009l309 y11 h12");
        z.cheese(0, 1);
        z.wax(0);
        c.due("14: young, waxed lines too", z.mark(0, 1), 2);
        c.due("14: hungry, 9 by 4", z.mark(1, 3), 3);
        z.year();
        c.due("14: hungry, 4 by 4", z.mark(1, 3), 1);
        z.year();
        c.due("14: hungry, eaten up", z.mark(1, 3), 0);
        c.due("14: young, eaten up ones too", z.mark(0, 1), 1);
    }

    private static void marksAre(MiceRegisters x, int[][] want) {
        for (int i = 0; i < want.length; i++) {
            for (int kind = 1; kind < 6; kind++) {
                final int mouse = i;
                final int k = kind;
                String what = "14: mark(" + i + ", " + kind + ")";
                if (want[i][kind - 1] == MiceRegisters.FINDING) {
                    c.found(what, x, () -> x.mark(mouse, k), 3);
                } else {
                    c.due(what, x.mark(i, kind), want[i][kind - 1]);
                }
            }
        }
    }
}
