/** Promises 37 to 43, sentence by sentence, at each edge and on both sides of it. */
public final class ToldEdgesTest {
    private static final int MIN = Integer.MIN_VALUE, MAX = Integer.MAX_VALUE, NONE = MiceRegisters.NONE;
    private static final Edges e = new Edges("ToldEdgesTest");

    public static void main(String[] args) {
        askedBefore();
        askedByEach();
        askedByNoOther();
        upperAndLower();
        countAtFirst();
        countOfRegister();
        countOfMost();
        finding();
        findings();
        digestOfNone();
        digestOfMost();
        digestOfSome();
        e.end();
    }

    private static void askedBefore() {
        e.promise(37);
        e.says("0 before.");
        MiceRegisters x = new MiceRegisters();
        e.due("of a new one", x.asked(), 0);
        x.at(0, 0);
        x.line(0, 0);
        x.row(0, 3);
        e.due("behind what is refused, and what tells nothing", x.asked(), 0);
    }

    /** Each of them tells another number than the one ahead. */
    private static void askedByEach() {
        e.says("What the latest lay(), at(), mean(), line(), mouse(), likes(), save(), guard(), look(), sets(), sure(), duel()");
        MiceRegisters x = Checks.with("rl502l104m03");
        Checks.fill(x, 0, 17);
        e.told("lay(0, 0, 0)", x, x.lay(0, 0, 0), 1, 17);
        e.told("at(0, 0)", x, x.at(0, 0), 1, 0);
        e.told("line(0, 0)", x, x.line(0, 0), 1, 5);
        e.told("mean(0)", x, x.mean(0), 1, 0);
        e.told("mouse(0, 2)", x, x.mouse(0, 2), 1, 3);
        e.told("likes(0, 9, 20, 0)", x, x.likes(0, 9, 20, 0), 1, 29);
        e.told("save(0, 1)", x, x.save(0, 1), 6, 1);
        e.told("guard(1)", x, x.guard(1), 0, 6);
        e.told("look(0, 0): then a YOUNG one goes on", x, x.look(0, 0), 2, 5);
        e.told("sets(4)", x, x.sets(4), 1, 2);
        e.told("sure(4)", x, x.sure(4), 2, 1);
        e.told("duel(1, 0, 0)", x, x.duel(1, 0, 0), 1, 4);
        e.says("that was not refused (nor NONE) told;");
        e.still("lay()", x, () -> x.lay(6, 0, 0), -1);
        e.still("line()", x, () -> x.line(2, 0), -1);
        e.still("mouse()", x, () -> x.mouse(0, 5), -1);
        e.still("likes()", x, () -> x.likes(0, 0, 0, 8), -1);
        e.still("save() that is BAD", x, () -> x.save(0, 21), -1);
        e.still("save() that is NONE", x, () -> x.save(0, 3), NONE);
        e.still("guard()", x, () -> x.guard(21), -1);
        e.still("sets()", x, () -> x.sets(321), -1);
        e.still("duel()", x, () -> x.duel(0, 0, 0), -1);
        e.found("at()", x, () -> x.at(0, 1), 2);
        e.found("mean()", x, () -> x.mean(1), 1);
        e.found("sure()", x, () -> x.sure(5), 4);
        e.found("look()", x, () -> x.look(0, 1), 1);
        Checks.fill(x, 0, 1);
        x.likes(0, 1, 1, 0);
        e.still("look() that is NONE", x, () -> x.look(0, 0), NONE);
        e.told("sets() that finds none tells NONE, and is 1", x, x.sets(5), 1, NONE);
        e.told("save() by 0 tells NONE, and is 0", x, x.save(1, 1), 0, NONE);
    }

    private static void askedByNoOther() {
        e.says("What the latest lay(), at(), mean(), line(), mouse(), likes(), save(), guard(), look(), sets(), sure(), duel()");
        MiceRegisters x = Checks.with("rl540l340y02");
        Checks.fill(x, 0, 0);
        x.likes(0, 9, 20, 0);
        x.row(1, 3);
        x.copy(0, 0, 1, 0, 1);
        x.tear(1);
        x.text(1, 4);
        x.put(1, 0, 5);
        x.fault(1);
        x.mark(0, 1);
        x.year();
        x.cheese(0, 1);
        x.cat(0);
        x.wax(0);
        x.keep(0);
        x.undo(1);
        x.on(0);
        x.left(0, 1);
        x.eaten(1);
        x.when(0);
        x.places(0, 0);
        x.kinds(0, 0);
        x.odds(0, 1);
        x.mid(1);
        x.lots(1, 1);
        x.upper();
        x.lower();
        x.count(4);
        x.finding();
        x.findings(1);
        x.digest();
        x.register(0);
        e.due("behind all the others", x.asked(), 29);
        e.due("none of which was refused", x.finding(), 0);
    }

    private static void upperAndLower() {
        MiceRegisters x = Checks.with("rl540m02");
        e.promise(38);
        e.says("The upper number that was told last; 0 before.");
        e.due("before", x.upper(), 0);
        x.odds(0, 5);
        e.due("by odds()", x.upper(), 5);
        x.mid(5);
        e.due("by mid()", x.upper(), 233);
        x.sets(40);
        e.due("by sets()", x.upper(), 1);
        x.sets(39);
        e.due("by sets() that finds none", x.upper(), 0);
        x.mid(5);
        x.mid(13);
        x.odds(1, 0);
        x.sets(-1);
        x.sure(40);
        x.year();
        x.register(0);
        e.due("not by what is refused, nor by others", x.upper(), 233);
        e.promise(39);
        e.says("Its lower number; 1 before.");
        e.due("before", new MiceRegisters().lower(), 1);
        e.due("by mid()", x.lower(), 6);
        x.odds(0, 5);
        e.due("by odds()", x.lower(), 12);
        x.sets(40);
        e.due("by sets()", x.lower(), 1);
        x.odds(0, 5);
        x.sets(39);
        e.due("by sets() that finds none", x.lower(), 1);
        x.odds(0, 5);
        x.odds(0, 0);
        e.due("by odds() of 0", x.lower(), 1);
    }

    private static void countAtFirst() {
        MiceRegisters x = new MiceRegisters();
        e.promise(40);
        e.says("0 LINES, 1 MICE, 2 the number of the next YEAR, 3 DEEDS, 4 all LETTERS left,");
        for (int what = 0; what < 14; what++) {
            final int w = what;
            e.still("count(" + what + ") at first", x, () -> x.count(w), what == 7 ? NONE : 0);
        }
        e.says("BAD.");
        for (int what : new int[] {-1, 14, MIN, MAX}) {
            e.bad("count(" + what + ")", x, () -> x.count(what));
        }
    }

    private static void counts(String when, MiceRegisters x, int from, int... dues) {
        for (int n = 0; n < dues.length; n++) {
            e.due(when + ", count(" + (from + n) + ")", x.count(from + n), dues[n]);
        }
    }

    private static void countOfRegister() {
        MiceRegisters x = Checks.with("rl901l901m01");
        e.says("0 LINES, 1 MICE, 2 the number of the next YEAR, 3 DEEDS, 4 all LETTERS left,");
        counts("at first", x, 0, 2, 1, 0, 0, 2);
        x.year();
        counts("behind a YEAR", x, 0, 2, 1, 1, 1, 1);
        x.wax(1);
        counts("WAX is no YEAR", x, 0, 2, 1, 1, 2, 1);
        x.undo(0);
        counts("undone", x, 0, 2, 1, 0, 0, 2);
        for (int y = 0; y < 40; y++) {
            x.year();
        }
        counts("behind 40 YEARS", x, 0, 2, 1, 40, 40, 0);
        e.says("5 LINES eaten up (bits), 6 WAXED ones (bits), 7 where the CAT is (NONE), 8 all CHEESE,");
        counts("all eaten up", x, 5, 3, 0, NONE, 0);
        x.undo(1);
        counts("one eaten up", x, 5, 1, 0, NONE, 0);
        x.cat(0);
        counts("the CAT at 0", x, 5, 1, 0, 0, 0);
        x.cat(1);
        x.wax(1);
        x.cheese(0, 1);
        counts("and WAX and CHEESE", x, 5, 1, 2, 1, 1);
        e.says("9 OLD ones (WHITE, too), 10 HUNGRY ones (GREEDY, too),");
        counts("a MOUSE", x, 9, 0, 0);
        counts("of y, o, w", Checks.with("rl101y01o01w01"), 9, 2, 0);
        counts("of y, h, g", Checks.with("rl101y01h01g01"), 9, 0, 2);
        counts("of w, o, w, o", Checks.with("rl101w01o01w01o01"), 9, 4, 0);
        counts("of g, h, h, g", Checks.with("rl101g01h01h01g01"), 9, 0, 4);
        counts("of m, w, g", Checks.with("rl101m01w01g01"), 9, 1, 1);
        e.says("11 ROWS, 12 TEXTS that are there, 13 kept REGISTERS.");
        counts("a TEXT", x, 11, 0, 1, 0);
        x.row(5, 0);
        x.text(3, 0);
        x.keep(2);
        counts("of nothing, too", x, 11, 1, 2, 1);
        x.row(5, 1);
        x.text(3, 1);
        x.keep(2);
        counts("anew", x, 11, 1, 2, 1);
        x.tear(5);
        counts("torn", x, 11, 0, 2, 1);
    }

    private static MiceRegisters most() {
        MiceRegisters x = new MiceRegisters();
        Checks.write(x, 0, "rl540l540l540l540l540l540l540l540 g01h11w21o31" + " ".repeat(14));
        x.register(0);
        for (int r = 0; r < 6; r++) {
            x.row(r, 40);
        }
        for (int t = 1; t < 4; t++) {
            x.text(t, 60);
        }
        return x;
    }

    private static void countOfMost() {
        MiceRegisters x = most();
        for (int l = 0; l < 8; l++) {
            x.cheese(l, 9);
            x.cheese(l, 9);
            x.cheese(l, 2);
            x.wax(l);
        }
        x.cat(7);
        for (int k = 0; k < 3; k++) {
            x.keep(k);
        }
        e.says("0 LINES, 1 MICE, 2 the number of the next YEAR, 3 DEEDS, 4 all LETTERS left,");
        counts("as much as can be", x, 0, 8, 4, 0, 33, 320);
        e.says("5 LINES eaten up (bits), 6 WAXED ones (bits), 7 where the CAT is (NONE), 8 all CHEESE,");
        counts("as much as can be", x, 5, 0, 255, 7, 160);
        e.says("11 ROWS, 12 TEXTS that are there, 13 kept REGISTERS.");
        counts("as much as can be", x, 11, 6, 4, 3);
    }

    private static void finding() {
        MiceRegisters x = new MiceRegisters();
        e.promise(41);
        e.says("The latest FINDING (0 before any).");
        e.due("before any", x.finding(), 0);
        x.row(6, 0);
        x.year();
        e.due("BAD, STATE are none", x.finding(), 0);
        x.at(0, 0);
        e.due("1 NOTHING", x.finding(), 1);
        x.row(0, 0);
        e.due("stays", x.finding(), 1);
        x.at(0, 0);
        e.due("2 BEYOND", x.finding(), 2);
        x.mean(0);
        e.due("4 NOUGHT", x.finding(), 4);
        x.row(0, -1);
        e.due("5 SIZE", x.finding(), 5);
        Checks.write(x, 0, "rl101m01");
        x.register(0);
        x.mark(0, 1);
        e.due("3 UNLIKE", x.finding(), 3);
        x.at(1, 0);
        e.due("1 NOTHING again", x.finding(), 1);
        x.register(0);
        e.due("stays with a REGISTER anew", x.finding(), 1);
    }

    private static void findings() {
        MiceRegisters x = new MiceRegisters();
        e.promise(42);
        e.says("How often a FINDING (1 .. 5) was answered.");
        for (int n = 1; n <= 5; n++) {
            final int f = n;
            e.still("findings(" + f + ") at first", x, () -> x.findings(f), 0);
        }
        Checks.write(x, 0, "rl101m01");
        x.register(0);
        x.row(0, 0);
        for (int n = 0; n < 6; n++) {
            x.at(1, 0);
            if (n < 5) {
                x.at(0, 0);
            }
            if (n < 4) {
                x.mark(0, 1);
            }
            if (n < 3) {
                x.mean(0);
            }
            if (n < 2) {
                x.row(0, -1);
            }
        }
        for (int f = 1; f <= 5; f++) {
            e.due("findings(" + f + ")", x.findings(f), 7 - f);
        }
        x.at(6, 0);
        x.register(1);
        e.due("BAD is none; a missing TEXT is one more", x.findings(1), 7);
        e.says("BAD.");
        for (int f : new int[] {0, 6, -1, MIN, MAX}) {
            e.bad("findings(" + f + ")", x, () -> x.findings(f));
        }
    }

    private static void digestOfNone() {
        MiceRegisters x = new MiceRegisters();
        e.promise(43);
        e.says("h = 17; then h = 31 h + v for each v: count() 0 to 13; of each LINE line() 0 to 5; "
                + "of each MOUSE mouse() 0 to 4;");
        long h = 17;
        for (int n = 0; n < 14 + 3 + 6 + 4; n++) {
            h = 31 * h + (n < 14 ? n == 7 ? NONE : 0 : -1);
        }
        e.due("of a new one", x.digest(), h);
        e.due("again", x.digest(), h);
    }

    private static void digestOfMost() {
        MiceRegisters x = most();
        for (int r = 0; r < 6; r++) {
            x.lay(r, 0, MIN + r);
            x.lay(r, 39, MAX - r);
        }
        for (int t = 1; t < 4; t++) {
            x.put(t, 0, 127 + t);
            x.put(t, 59, -t);
        }
        for (int d = 0; d < 40; d++) {
            if (d == 1) {
                x.keep(0);
            }
            if (d == 20) {
                x.keep(2);
            }
            deed(x, d);
        }
        x.keep(1);
        long h = ofRegister(x);
        e.says("of each kept REGISTER how many DEEDS (-1: missing);");
        h = 31 * (31 * (31 * h + 1) + 40) + 20;
        e.says("of each ROW its size (-1: missing) and places, of each TEXT likewise.");
        for (int r = 0; r < 6; r++) {
            h = 31 * (31 * h + 40) + MIN + r;
            for (int i = 1; i < 39; i++) {
                h = 31 * h;
            }
            h = 31 * h + MAX - r;
        }
        h = 31 * h + 60;
        String text = "rl540l540l540l540l540l540l540l540 g01h11w21o31" + " ".repeat(14);
        for (int i = 0; i < 60; i++) {
            h = 31 * h + text.charAt(i);
        }
        for (int t = 1; t < 4; t++) {
            h = 31 * (31 * h + 60) + t - 129;
            for (int i = 1; i < 59; i++) {
                h = 31 * h + 32;
            }
            h = 31 * h - t;
        }
        e.due("as much as can be", x.digest(), h);
    }

    private static void deed(MiceRegisters x, int d) {
        switch (d % 5) {
            case 0 -> x.cheese(d % 8, 9);
            case 1 -> x.wax(d % 8);
            case 2 -> x.cat(d % 8);
            default -> x.year();
        }
    }

    /** The part of a digest that count(), line() and mouse() tell. */
    private static long ofRegister(MiceRegisters x) {
        long h = 17;
        for (int what = 0; what < 14; what++) {
            h = 31 * h + x.count(what);
        }
        for (int l = 0; l < x.count(0); l++) {
            for (int what = 0; what < 6; what++) {
                h = 31 * h + Checks.line(x, l, what);
            }
        }
        for (int i = 0; i < x.count(1); i++) {
            for (int what = 0; what < 5; what++) {
                h = 31 * h + Checks.mouse(x, i, what);
            }
        }
        return h;
    }

    private static void digestOfSome() {
        MiceRegisters x = Checks.with("rl101m01");
        x.cat(0);
        x.row(2, 3);
        x.lay(2, 1, -5);
        x.row(2, 2);
        x.row(4, 0);
        x.row(5, 1);
        x.tear(5);
        x.text(3, 0);
        x.keep(1);
        int[] behind = {-1, 1, -1, -1, -1, 2, 0, 0, -1, 0, -1, 8, 'r', 'l', '1', '0', '1', 'm', '0', '1', -1, -1, 0};
        long h = ofRegister(x);
        for (int v : behind) {
            h = 31 * h + v;
        }
        e.due("some are missing", x.digest(), h);
        x.mouse(0, 1);
        e.still("it tells nothing else", x, () -> x.digest() == 0 ? 0 : 1, 1);
    }
}
