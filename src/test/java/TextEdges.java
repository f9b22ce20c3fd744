/** What the document's terms say of a REGISTER's TEXT and its FAULTS. */
final class TextEdges {
    private static final int NONE = MiceRegisters.NONE;
    private static final String EIGHT = "rl101l101l101l101l101l101l101l101";

    private final Edges e;

    private TextEdges(Edges e) {
        this.e = e;
    }

    static void all(Edges e) {
        TextEdges t = new TextEdges(e);
        t.atFirst();
        t.blanks();
        t.begins();
        t.lines();
        t.letters();
        t.mice();
        t.whereMiceAre();
        t.letterFaults();
        t.faultsOfOrder();
        t.faultsOfTwoFigures();
        t.faultsOfTheEnd();
    }

    /** The FAULT of a TEXT; and that a REGISTER is made by it only if there is none. */
    private void faultIs(String text, int want) {
        MiceRegisters x = new MiceRegisters();
        Checks.write(x, 2, text);
        e.still("fault of '" + text + "'", x, () -> x.fault(2), want);
        if (want == NONE) {
            e.due("register of '" + text + "'", x.register(2) > 0 ? 1 : 0, 1);
        } else {
            e.state("register of '" + text + "'", x, () -> x.register(2));
        }
    }

    private void atFirst() {
        MiceRegisters x = new MiceRegisters();
        e.says("A REGISTER (without LINES, MICE at first) is a TEXT:");
        e.due("LINES at first", x.count(0), 0);
        e.due("MICE at first", x.count(1), 0);
        Checks.write(x, 0, "rl101l101m01m01m01");
        e.due("by a TEXT", x.register(0), 3);
        e.due("LINES", x.count(0), 2);
        e.due("MICE", x.count(1), 3);
    }

    private void blanks() {
        e.says("blanks (32) ahead, between, behind as many as wanted, none within items.");
        faultIs("rl101m01", NONE);
        faultIs("                                                    rl101m01", NONE);
        faultIs("r                                                    l101m01", NONE);
        faultIs("rl101                                                    m01", NONE);
        faultIs("rl101m01                                                    ", NONE);
        faultIs(" r l101 l101 m01 m11 ", NONE);
        faultIs("  r  l101  l101  m01  m11  ", NONE);
        for (int sign : new int[] {31, 33, 0, 9, 10, 13, 95, 160}) {
            faultIs((char) sign + "rl101m01", 0);
            faultIs("r" + (char) sign + "l101m01", 1);
            faultIs("rl101" + (char) sign + "m01", 5);
            faultIs("rl101m01" + (char) sign, 8);
        }
        faultIs("rl 101m01", 2);
        faultIs("rl1 01m01", 3);
        faultIs("rl10 1m01", 4);
        faultIs("rl101m 01", 6);
        faultIs("rl101m0 1", 7);
    }

    private void begins() {
        e.says("First r (114).");
        faultIs("ql101m01", 0);
        faultIs("sl101m01", 0);
        faultIs("Rl101m01", 0);
        faultIs("  l101m01", 2);
        faultIs("l101m01", 0);
        faultIs("rrl101m01", 1);
        faultIs("rl101rm01", 5);
        faultIs("rl101m01r", 8);
    }

    private void lines() {
        e.says("Then LINES (1 to 8; 0, 1, .. as they come): l (108), by how much it is WRONG (0 .. 9),");
        faultIs("rm01", 1);
        faultIs("rl101m01", NONE);
        faultIs(EIGHT + "m01", NONE);
        faultIs(EIGHT + "l101m01", 33);
        faultIs("rk101m01", 1);
        faultIs("rL101m01", 1);
        faultIs("r1101m01", 1);
        for (int sign = '0' - 1; sign <= '9' + 1; sign++) {
            faultIs("rl" + (char) sign + "01m01", sign >= '0' && sign <= '9' ? NONE : 2);
        }
        MiceRegisters x = Checks.with("rl001l102l203l304l405l506l607l908m01");
        for (int l = 0; l < 8; l++) {
            e.due("LINE " + l + ", WRONG by", Checks.line(x, l, 0), l == 7 ? 9 : l);
            e.due("LINE " + l + ", LETTERS", Checks.line(x, l, 1), l + 1);
        }
    }

    private void letters() {
        e.says("how many LETTERS it has (two figures, 01 .. 40).");
        for (int letters = 0; letters < 100; letters++) {
            String figures = "" + letters / 10 + letters % 10;
            faultIs("rl1" + figures + "m01", letters >= 1 && letters <= 40 ? NONE : 3);
        }
        e.due("01", Checks.line(Checks.with("rl101m01"), 0, 1), 1);
        e.due("10", Checks.line(Checks.with("rl110m01"), 0, 1), 10);
        e.due("39", Checks.line(Checks.with("rl139m01"), 0, 1), 39);
        e.due("40", Checks.line(Checks.with("rl140m01"), 0, 1), 40);
    }

    private void mice() {
        e.says("Then MICE (1 to 4; 0, 1, .. as they come): a letter,");
        faultIs("rl101", 5);
        faultIs("rl101m01", NONE);
        faultIs("rl101m01y01o01h01", NONE);
        faultIs("rl101m01y01o01h01w01", 17);
        MiceRegisters x = Checks.with("rl101l101l101l101m36y25g14w03");
        int[] kinds = {0, 1, 5, 4};
        for (int i = 0; i < 4; i++) {
            e.due("MOUSE " + i + ", KIND", Checks.mouse(x, i, 0), kinds[i]);
            e.due("MOUSE " + i + ", LINE", Checks.mouse(x, i, 1), 3 - i);
            e.due("MOUSE " + i + ", TEETH", Checks.mouse(x, i, 2), 6 - i);
        }
    }

    private void whereMiceAre() {
        e.says("the LINE where it is (0 .. 7; there must be such a LINE), its TEETH (1 .. 9), one figure each.");
        for (int lines = 1; lines <= 8; lines++) {
            String text = EIGHT.substring(0, 1 + 4 * lines);
            for (int sign = '0' - 1; sign <= '9' + 1; sign++) {
                boolean there = sign >= '0' && sign < '0' + lines;
                faultIs(text + "m" + (char) sign + "1", there ? NONE : text.length() + 1);
            }
        }
        for (int sign = '0' - 1; sign <= '9' + 1; sign++) {
            faultIs("rl101m0" + (char) sign, sign >= '1' && sign <= '9' ? NONE : 7);
        }
        faultIs("rl101m011", 8);
        faultIs("rl101m0m", 7);
        faultIs("rl101mm01", 6);
    }

    /** Of all bytes six are letters of MICE; an l begins a LINE, and a blank comes ahead of an item. */
    private void letterFaults() {
        e.says("A FAULT is the first place at which it can't go on so (a letter, a figure that is none such,");
        for (int sign = 0; sign < 256; sign++) {
            boolean isMouse = "myohwg".indexOf(sign) >= 0;
            int want = isMouse ? NONE : sign == 'l' ? 8 : sign == ' ' ? 6 : 5;
            faultIs("rl101" + (char) sign + "01", want);
        }
        faultIs("rl101mx1 x", 6);
        faultIs("rl101m0x x", 7);
        faultIs("rlx01mx1", 2);
        faultIs("rl1x1m00", 3);
        faultIs("rl10xm00", 4);
        faultIs("xlx", 0);
    }

    private void faultsOfOrder() {
        e.says("a MOUSE ahead of all LINES, a LINE behind a MOUSE, a ninth LINE, a fifth MOUSE: its place;");
        faultIs("rm01l101", 1);
        faultIs("r  m01l101", 3);
        faultIs("rl101m01l101", 8);
        faultIs("rl101m01 l101m01", 9);
        faultIs("rl101m01l", 8);
        faultIs(EIGHT + "l", 33);
        faultIs(EIGHT + " l101m01", 34);
        faultIs(EIGHT + "m01", NONE);
        faultIs("rl101m01m01m01m01m", 17);
        faultIs("rl101m01m01m01m01 g01", 18);
        faultIs("rl101m01m01m01m01", NONE);
        faultIs(EIGHT + "m01y11o21h31g", 45);
    }

    private void faultsOfTwoFigures() {
        e.says("two figures that are not as told: the place of the first of both;");
        faultIs("rl100m01", 3);
        faultIs("rl101m01", NONE);
        faultIs("rl140m01", NONE);
        faultIs("rl141m01", 3);
        faultIs("rl199m01", 3);
        faultIs("r  l101  l150m01", 11);
        faultIs("rl100", 3);
        faultIs("rl141", 3);
    }

    private void faultsOfTheEnd() {
        e.says("the TEXT's size, if its end comes too early (also without a MOUSE), or there are blanks alone).");
        String whole = "rl101l101m01y11";
        for (int size = 0; size <= whole.length(); size++) {
            faultIs(whole.substring(0, size), size == 12 || size == 15 ? NONE : size);
        }
        faultIs("r  ", 3);
        faultIs("rl101  ", 7);
        faultIs("rl101m01  y", 11);
        faultIs("rl101m01  y0", 12);
        faultIs("rl101" + " ".repeat(54) + "m", 60);
        faultIs("rl101" + " ".repeat(53) + "m0", 60);
        faultIs(" ".repeat(57) + "rl1", 60);
        MiceRegisters x = new MiceRegisters();
        for (int size = whole.length(); size >= 0; size--) {
            // what stood behind is no more part of it
            Checks.write(x, 2, whole.substring(0, size));
            e.due("made shorter, of " + size, x.fault(2), size == 12 || size == 15 ? NONE : size);
        }
        faultIs("rl1", 3);
        faultIs("rl14", 4);
        faultIs("rl19", 4);
        for (int size = 0; size <= 60; size++) {
            faultIs(" ".repeat(size), size);
        }
    }
}
