/** Promises 15 to 21: deeds, undone, kept. */
public final class DeedsTest {
    private static final int NONE = MiceRegisters.NONE;
    private static final Checks c = new Checks("DeedsTest");

    public static void main(String[] args) {
        yearRefused();
        whereMiceGo();
        howMiceEat();
        cheese();
        cat();
        wax();
        full();
        undo();
        keepAndOn();
        c.end();
    }

    private static void yearRefused() {
        MiceRegisters x = new MiceRegisters();
        c.due("15: no mice", x.year(), -4);
        c.due("15: nothing done", x.count(3), 0);
    }

    private static void whereMiceGo() {
        yearIs("liked most", "rl520l908m03", 3, 1);
        yearIs("less the distance", "rl520l120l720m03", 3, 0);
        yearIs("of like ones the nearest", "rl620l520m13", 3, 1);
        yearIs("of like ones the nearest, behind", "rl520l620m03", 3, 0);
        yearIs("of these the first", "rl520l020l520m13", 3, 0);
        yearIs("liked by 0", "rl020l120m03", 0, 0);
        yearIs("liked by 1", "rl020l220m03", 3, 1);
        yearIs("a young one goes far", "rl820l020l020l020l920y03", 3, 4);
        yearIs("a young one, of like ones the nearest", "rl920l020l020l920y23", 3, 3);
        yearIs("an old one, wrong by 3", "rl320l020o03", 0, 0);
        yearIs("an old one, wrong by 4", "rl320l420o03", 3, 1);
        yearIs("a white one, wrong by 3", "rl320w03", 0, 0);
        yearIs("a hungry one", "rl520l720h03", 6, 1);
    }

    private static void yearIs(String what, String text, int eaten, int where) {
        MiceRegisters x = Checks.with(text);
        int all = x.count(4);
        c.due("15: " + what + ", wanted before", Checks.mouse(x, 0, 4), eaten == 0 ? NONE : where);
        c.due("15: " + what, x.year(), eaten);
        c.due("15: " + what + ", where", Checks.mouse(x, 0, 1), where);
        c.due("15: " + what + ", left", x.count(4), all - eaten);
        c.due("15: " + what + ", next", x.count(2), 1);
        c.due("15: " + what + ", deeds", x.count(3), 1);
    }

    private static void howMiceEat() {
        MiceRegisters x = Checks.with("rl503l203m03m05");
        c.due("15: the second one goes on", x.year(), 6);
        c.due("15: it is there", Checks.mouse(x, 1, 1), 1);
        c.due("15: both are eaten up", x.count(5), 3);
        c.due("15: then nothing", x.year(), 0);
        MiceRegisters y = Checks.with("rl902m09");
        c.due("15: at most what is left", y.year(), 2);
        MiceRegisters z = Checks.with("rl940g09w09o09y09");
        c.due("15: 18 and 5 and 9 and the rest", z.year(), 40);
        MiceRegisters g = Checks.with("rl640l040g04");
        g.cheese(1, 4);
        c.due("15: greedy, the cheese twice", g.year(), 8);
        c.due("15: greedy, at 1", Checks.mouse(g, 0, 1), 1);
        MiceRegisters m = Checks.with("rl440l140m04");
        m.cheese(1, 4);
        m.year();
        c.due("15: a mouse, the cheese once", Checks.mouse(m, 0, 1), 0);
    }

    private static void cheese() {
        MiceRegisters x = new MiceRegisters();
        c.due("16: no lines", x.cheese(0, 1), -1);
        x = Checks.with("rl320l020m11");
        c.due("16: cheese(2, 1)", x.cheese(2, 1), -1);
        c.due("16: cheese(-1, 1)", x.cheese(-1, 1), -1);
        c.due("16: cheese(0, 0)", x.cheese(0, 0), -1);
        c.due("16: cheese(0, 10)", x.cheese(0, 10), -1);
        c.due("16: 9", x.cheese(1, 9), 9);
        c.due("16: 18", x.cheese(1, 9), 18);
        c.due("16: 21 would be", x.cheese(1, 3), -4);
        c.due("16: 20", x.cheese(1, 2), 20);
        c.due("16: full of it", x.cheese(1, 1), -4);
        c.due("16: another line", x.cheese(0, 1), 1);
        c.due("16: deeds", x.count(3), 4);
        x.year();
        c.due("16: 1 less", Checks.line(x, 1, 3), 19);
        c.due("16: none of it", Checks.line(x, 0, 3), 0);
        x.year();
        c.due("16: 0 at least", Checks.line(x, 0, 3), 0);
    }

    private static void cat() {
        MiceRegisters x = new MiceRegisters();
        c.due("17: no mice", x.cat(NONE), -4);
        c.due("17: no such line", x.cat(0), -1);
        x = Checks.with("rl520l420m02");
        c.due("17: cat(2)", x.cat(2), -1);
        c.due("17: cat(-1)", x.cat(-1), -1);
        c.due("17: it is away", x.cat(NONE), -4);
        c.due("17: set", x.cat(0), NONE);
        c.due("17: it is there", x.cat(0), -4);
        c.due("17: where", x.count(7), 0);
        x.year();
        c.due("17: a mouse goes elsewhere", Checks.mouse(x, 0, 1), 1);
        c.due("17: set elsewhere", x.cat(1), 0);
        c.due("17: where now", x.count(7), 1);
        c.due("17: taken away", x.cat(NONE), 1);
        c.due("17: nowhere", x.count(7), NONE);
        c.due("17: deeds", x.count(3), 4);
    }

    private static void wax() {
        MiceRegisters x = new MiceRegisters();
        c.due("18: no lines", x.wax(0), -1);
        x = Checks.with("rl520l020l420m02");
        c.due("18: wax(3)", x.wax(3), -1);
        c.due("18: wax(-1)", x.wax(-1), -1);
        c.due("18: waxed", x.wax(0), 1);
        c.due("18: waxed too", x.wax(2), 1);
        c.due("18: both", x.count(6), 5);
        c.due("18: nothing eaten", x.year(), 0);
        c.due("18: no more", x.wax(0), 0);
        c.due("18: one", x.count(6), 4);
        c.due("18: eaten", x.year(), 2);
        c.due("18: deeds", x.count(3), 5);
    }

    private static void full() {
        MiceRegisters x = Checks.with("rl520l420m02");
        for (int d = 0; d < 20; d++) {
            x.wax(0);
            x.year();
        }
        c.due("15: 40 deeds", x.count(3), 40);
        long before = x.digest();
        c.due("15: FULL", x.year(), -2);
        c.due("16: FULL", x.cheese(0, 9), -2);
        c.due("17: FULL", x.cat(1), -2);
        c.due("17: STATE ahead of FULL", x.cat(NONE), -4);
        c.due("18: FULL", x.wax(1), -2);
        c.due("36: FULL", x.lots(1, 1), -2);
        c.due("16: BAD ahead of FULL", x.cheese(2, 1), -1);
        c.due("17: BAD ahead of FULL", x.cat(2), -1);
        c.due("18: BAD ahead of FULL", x.wax(2), -1);
        c.due("FULL changes nothing", x.digest(), before);
        MiceRegisters y = Checks.with("rl520m02");
        y.cheese(0, 9);
        y.cheese(0, 9);
        for (int d = 0; d < 38; d++) {
            y.wax(0);
        }
        c.due("16: STATE ahead of FULL", y.cheese(0, 3), -4);
        c.due("16: FULL, else", y.cheese(0, 2), -2);
    }

    private static void undo() {
        MiceRegisters x = new MiceRegisters();
        c.due("19: no deeds", x.undo(0), -1);
        x = Checks.with("rl520l420m02");
        long[] states = new long[6];
        states[0] = x.digest();
        x.cheese(1, 5);
        states[1] = x.digest();
        x.year();
        states[2] = x.digest();
        x.cat(1);
        states[3] = x.digest();
        x.wax(0);
        states[4] = x.digest();
        x.year();
        states[5] = x.digest();
        c.due("19: undo(-1)", x.undo(-1), -1);
        c.due("19: undo(5), no such deed", x.undo(5), -1);
        c.due("19: undo(6)", x.undo(6), -1);
        c.due("19: nothing changed", x.digest(), states[5]);
        c.due("19: the last one", x.undo(4), 1);
        c.due("19: as before it", x.digest(), states[4]);
        c.due("19: two", x.undo(2), 2);
        c.due("19: as before these", x.digest(), states[2]);
        x.cat(1);
        x.wax(0);
        x.year();
        c.due("19: done anew", x.digest(), states[5]);
        c.due("19: all but one", x.undo(1), 4);
        c.due("19: as behind the first", x.digest(), states[1]);
        c.due("19: all", x.undo(0), 1);
        c.due("19: as at first", x.digest(), states[0]);
        MiceRegisters y = Checks.with("rl920l420m12");
        y.year();
        c.due("19: away", Checks.mouse(y, 0, 1), 0);
        y.undo(0);
        c.due("19: where it was at first", Checks.mouse(y, 0, 1), 1);
    }

    private static void keepAndOn() {
        MiceRegisters x = new MiceRegisters();
        c.due("20: keep(-1)", x.keep(-1), -1);
        c.due("20: keep(3)", x.keep(3), -1);
        c.due("20: no mice", x.keep(0), -4);
        c.due("21: on(-1)", x.on(-1), -1);
        c.due("21: on(3)", x.on(3), -1);
        final MiceRegisters none = x;
        c.found("21: on(0), missing", x, () -> none.on(0), 1);
        x = Checks.with("rl520l420m02");
        c.due("20: without deeds", x.keep(2), 0);
        x.cheese(1, 5);
        x.year();
        c.due("20: with two", x.keep(0), 2);
        c.due("20: kept", x.count(13), 2);
        long two = x.digest();
        x.cat(1);
        x.wax(0);
        x.year();
        c.due("21: on(0)", x.on(0), 2);
        c.due("21: as it was", x.digest(), two);
        c.due("21: gone on from", x.year(), 2);
        c.due("21: undone into what was kept", x.undo(1), 2);
        c.due("21: on(0) again", x.on(0), 2);
        c.due("21: as it was, again", x.digest(), two);
        c.due("21: on(2)", x.on(2), 0);
        c.due("21: no deeds", x.count(3), 0);
        c.due("21: all letters", x.count(4), 40);
        c.due("21: on(0), from another past", x.on(0), 2);
        x.undo(0);
        x.wax(1);
        x.cheese(0, 2);
        x.year();
        c.due("21: other deeds, then on(0)", x.on(0), 2);
        c.due("21: as it was, all the same", x.digest(), two);
        c.due("21: undone from there", x.undo(1), 1);
        c.due("21: the first deed is the kept one", Checks.line(x, 1, 3), 5);
        x.undo(0);
        c.due("20: kept over", x.keep(0), 0);
        c.due("20: still two", x.count(13), 2);
        c.due("21: on(0), kept over", x.on(0), 0);
        final MiceRegisters there = x;
        c.found("21: on(1), missing", x, () -> there.on(1), 1);
    }
}
