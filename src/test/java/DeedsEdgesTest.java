/** Promises 15 to 21, sentence by sentence, at each edge and on both sides of it. */
public final class DeedsEdgesTest {
    private static final int MIN = Integer.MIN_VALUE, MAX = Integer.MAX_VALUE, NONE = MiceRegisters.NONE;
    private static final int NOTHING = 1;
    private static final Edges e = new Edges("DeedsEdgesTest");

    public static void main(String[] args) {
        year();
        cheese();
        cheeseRefused();
        cat();
        wax();
        undo();
        undoOfEach();
        keep();
        on();
        onFromElsewhere();
        e.end();
    }

    /** A REGISTER with so many DEEDS, none of which leaves anything behind if they are even. */
    private static MiceRegisters withDeeds(String text, int deeds) {
        MiceRegisters x = Checks.with(text);
        for (int d = 0; d < deeds; d++) {
            x.wax(0);
        }
        return x;
    }

    private static void year() {
        e.promise(15);
        e.says("A YEAR: how many LETTERS were eaten.");
        MiceRegisters none = Checks.with("rl009m09");
        e.due("none", none.year(), 0);
        e.due("a YEAR all the same", none.count(2), 1);
        MiceRegisters one = Checks.with("rl501m09");
        e.due("1, by TEETH 9", one.year(), 1);
        e.due("eaten up", one.year(), 0);
        MiceRegisters most = Checks.with("rl940l940l940 g09g19h29h29");
        e.due("18 each of four", most.year(), 72);
        e.due("asked() is not told", most.asked(), 0);
        e.says("STATE: no MICE;");
        MiceRegisters x = new MiceRegisters();
        e.state("at first", x, () -> x.year());
        Checks.write(x, 0, "rl501");
        x.register(0);
        e.state("no REGISTER by a FAULT", x, () -> x.year());
        Checks.write(x, 0, "rl501m01");
        x.register(0);
        e.due("one", x.year(), 1);
        e.says("FULL: 40 DEEDS.");
        MiceRegisters y = withDeeds("rl520m01", 38);
        e.due("with 38", y.year(), 1);
        e.due("with 39", y.year(), 1);
        e.full("with 40", y, () -> y.year());
        y.undo(39);
        e.due("with 39 again", y.year(), 1);
        e.says("(FULL last.)");
        e.full("with MICE and 40 DEEDS", y, () -> y.year());
    }

    private static void cheese() {
        MiceRegisters x = Checks.with("rl520l520l520l520l520l520l520l520m01");
        e.promise(16);
        e.says("CHEESE n (1 .. 9) is laid: how much there is on the LINE.");
        e.due("cheese(0, 1)", x.cheese(0, 1), 1);
        e.due("cheese(7, 9)", x.cheese(7, 9), 9);
        e.due("1 more", x.cheese(7, 1), 10);
        e.due("each LINE has its own", x.cheese(6, 2), 2);
        e.due("asked() is not told", x.asked(), 0);
        e.says("BAD;");
        for (int n : new int[] {0, 10, -1, MIN, MAX}) {
            e.bad("cheese(0, " + n + ")", x, () -> x.cheese(0, n));
        }
        for (int l : new int[] {-1, 8, NONE, MIN, MAX}) {
            e.bad("cheese(" + l + ", 1)", x, () -> x.cheese(l, 1));
        }
        MiceRegisters none = new MiceRegisters();
        e.bad("no LINES", none, () -> none.cheese(0, 1));
        MiceRegisters two = Checks.with("rl520l520m01");
        e.bad("LINE 2 of two", two, () -> two.cheese(2, 1));
        e.due("LINE 1 of two", two.cheese(1, 1), 1);
    }

    private static void cheeseRefused() {
        MiceRegisters x = Checks.with("rl520l520m01");
        e.says("STATE: it would be above 20;");
        x.cheese(0, 9);
        x.cheese(0, 3);
        e.state("21 by 9", x, () -> x.cheese(0, 9));
        e.due("20 by 8", x.cheese(0, 8), 20);
        e.state("21 by 1", x, () -> x.cheese(0, 1));
        e.due("another LINE", x.cheese(1, 1), 1);
        e.bad("BAD is ahead", x, () -> x.cheese(0, 10));
        x.year();
        e.state("19 are there then: 21 by 2", x, () -> x.cheese(0, 2));
        e.due("20 by 1", x.cheese(0, 1), 20);
        e.says("FULL.");
        MiceRegisters y = withDeeds("rl520l520m01", 39);
        e.due("with 39", y.cheese(0, 9), 9);
        e.full("with 40", y, () -> y.cheese(0, 9));
        e.full("with 40, on another LINE", y, () -> y.cheese(1, 1));
        e.says("(FULL last.)");
        MiceRegisters z = Checks.with("rl520l520m01");
        z.cheese(0, 9);
        z.cheese(0, 9);
        for (int d = 0; d < 38; d++) {
            z.wax(0);
        }
        e.bad("BAD ahead of FULL", z, () -> z.cheese(2, 1));
        e.bad("BAD ahead of FULL, by n", z, () -> z.cheese(0, 0));
        e.state("STATE ahead of FULL", z, () -> z.cheese(0, 3));
        e.full("FULL", z, () -> z.cheese(0, 2));
    }

    private static void cat() {
        MiceRegisters x = Checks.with("rl520l520l520l520l520l520l520l520m01");
        e.promise(17);
        e.says("The CAT is set at a LINE, or taken away (l is NONE): where it was (NONE).");
        e.due("set at 0", x.cat(0), NONE);
        e.due("set at 7", x.cat(7), 0);
        e.due("it is there alone", x.count(7), 7);
        e.due("taken away", x.cat(NONE), 7);
        e.due("it is nowhere", x.count(7), NONE);
        e.due("set again", x.cat(0), NONE);
        e.says("BAD;");
        for (int l : new int[] {-1, 8, -8, -10, MIN, MAX}) {
            e.bad("cat(" + l + ")", x, () -> x.cat(l));
        }
        MiceRegisters none = new MiceRegisters();
        e.bad("no LINES", none, () -> none.cat(0));
        e.says("STATE: no MICE, or it is so;");
        e.state("no MICE", none, () -> none.cat(NONE));
        e.state("it is at 0", x, () -> x.cat(0));
        x.cat(NONE);
        e.state("it is away", x, () -> x.cat(NONE));
        MiceRegisters first = Checks.with("rl520m01");
        e.state("it is away at first", first, () -> first.cat(NONE));
        e.says("FULL.");
        MiceRegisters y = withDeeds("rl520l520m01", 39);
        e.due("with 39", y.cat(1), NONE);
        e.full("with 40, set", y, () -> y.cat(0));
        e.full("with 40, taken away", y, () -> y.cat(NONE));
        e.says("(FULL last.)");
        e.bad("BAD ahead of FULL", y, () -> y.cat(2));
        e.state("STATE ahead of FULL", y, () -> y.cat(1));
    }

    private static void wax() {
        MiceRegisters x = Checks.with("rl520l520l520l520l520l520l520l520m01");
        e.promise(18);
        e.says("A LINE is WAXED, or no more: 1 it is, 0 not.");
        e.due("wax(0)", x.wax(0), 1);
        e.due("wax(7)", x.wax(7), 1);
        e.due("both are", x.count(6), 129);
        e.due("wax(0) again", x.wax(0), 0);
        e.due("the other one is", x.count(6), 128);
        e.due("wax(0), a third time", x.wax(0), 1);
        for (int l = 1; l < 7; l++) {
            e.due("wax(" + l + ")", x.wax(l), 1);
        }
        e.due("all are", x.count(6), 255);
        e.due("and nothing is eaten", x.year(), 0);
        e.says("BAD; FULL.");
        for (int l : new int[] {-1, 8, NONE, MIN, MAX}) {
            e.bad("wax(" + l + ")", x, () -> x.wax(l));
        }
        MiceRegisters none = new MiceRegisters();
        e.bad("no LINES", none, () -> none.wax(0));
        MiceRegisters y = withDeeds("rl520l520m01", 39);
        e.due("with 39", y.wax(1), 1);
        e.full("with 40", y, () -> y.wax(1));
        e.says("(FULL last.)");
        e.bad("BAD ahead of FULL", y, () -> y.wax(2));
        e.bad("BAD ahead of FULL, LINE -1", y, () -> y.wax(-1));
    }

    private static void undo() {
        e.promise(19);
        e.says("DEEDS from number n on are undone: how many.");
        MiceRegisters x = withDeeds("rl520m01", 40);
        e.due("the last one of 40", x.undo(39), 1);
        e.due("39 are left", x.count(3), 39);
        e.due("from 20 on", x.undo(20), 19);
        e.due("20 are left", x.count(3), 20);
        e.due("all", x.undo(0), 20);
        e.due("none is left", x.count(3), 0);
        x.wax(0);
        e.due("the one that there is", x.undo(0), 1);
        e.says("BAD.");
        for (int n : new int[] {0, 1, -1, MIN, MAX}) {
            e.bad("undo(" + n + ") of none", x, () -> x.undo(n));
        }
        x.wax(0);
        x.wax(0);
        for (int n : new int[] {2, 3, 40, -1, MIN, MAX}) {
            e.bad("undo(" + n + ") of two", x, () -> x.undo(n));
        }
        e.due("undo(1) of two", x.undo(1), 1);
        MiceRegisters none = new MiceRegisters();
        e.bad("no MICE", none, () -> none.undo(0));
        MiceRegisters full = withDeeds("rl520m01", 40);
        e.bad("undo(40) of 40", full, () -> full.undo(40));
    }

    /** Each DEED leaves the REGISTER as it was ahead of it, if it is undone. */
    private static void undoOfEach() {
        MiceRegisters x = Checks.with("rl909l405m03y12");
        e.says("DEEDS from number n on are undone: how many.");
        long[] ahead = new long[8];
        for (int d = 0; d < 8; d++) {
            ahead[d] = x.digest();
            doDeed(x, d);
        }
        for (int d = 7; d >= 0; d--) {
            e.due("DEED " + d + " undone", x.undo(d), 1);
            e.due("as ahead of DEED " + d, x.digest(), ahead[d]);
        }
        for (int d = 0; d < 8; d++) {
            doDeed(x, d);
        }
        e.due("five at once", x.undo(3), 5);
        e.due("as ahead of DEED 3", x.digest(), ahead[3]);
    }

    private static void doDeed(MiceRegisters x, int d) {
        switch (d) {
            case 0 -> x.cheese(1, 9);
            case 1, 5 -> x.year();
            case 2 -> x.cat(0);
            case 3, 6 -> x.wax(1);
            case 4 -> x.cat(1);
            default -> x.cat(NONE);
        }
    }

    private static void keep() {
        MiceRegisters x = Checks.with("rl520l420m02");
        e.promise(20);
        e.says("The REGISTER (as it is, DEEDS) is kept in a place (0 .. 2): how many DEEDS.");
        e.due("keep(0), without DEEDS", x.keep(0), 0);
        e.due("one is kept", x.count(13), 1);
        x.year();
        e.due("keep(2)", x.keep(2), 1);
        e.due("two are kept", x.count(13), 2);
        e.due("keep(1)", x.keep(1), 1);
        e.due("three are kept", x.count(13), 3);
        e.due("keep(1) again", x.keep(1), 1);
        e.due("still three", x.count(13), 3);
        e.due("it is no DEED", x.count(3), 1);
        for (int d = 1; d < 40; d++) {
            x.wax(1);
        }
        e.due("with 40 DEEDS", x.keep(0), 40);
        e.says("BAD;");
        for (int k : new int[] {-1, 3, MIN, MAX}) {
            e.bad("keep(" + k + ")", x, () -> x.keep(k));
        }
        e.says("STATE: no MICE.");
        MiceRegisters none = new MiceRegisters();
        for (int n = 0; n < 3; n++) {
            final int k = n;
            e.state("keep(" + k + ")", none, () -> none.keep(k));
        }
        e.bad("BAD is ahead", none, () -> none.keep(3));
    }

    private static void on() {
        MiceRegisters x = Checks.with("rl520l420m02");
        e.promise(21);
        e.says("The REGISTER is as it was kept: how many DEEDS.");
        x.keep(0);
        x.keep(1);
        x.keep(2);
        long bare = x.digest();
        x.cheese(1, 5);
        x.year();
        e.due("on(0), without DEEDS", x.on(0), 0);
        e.due("as it was", x.digest(), bare);
        for (int d = 0; d < 40; d++) {
            x.wax(1);
        }
        x.keep(2);
        long full = x.digest();
        x.undo(0);
        e.due("on(2), with 40 DEEDS", x.on(2), 40);
        e.due("as it was, with 40", x.digest(), full);
        e.full("FULL then", x, () -> x.year());
        e.due("on(2) where it is so", x.on(2), 40);
        e.due("on(1), too, stays kept", x.on(1), 0);
        e.due("three are kept", x.count(13), 3);
        e.says("BAD; NOTHING.");
        for (int k : new int[] {-1, 3, MIN, MAX}) {
            e.bad("on(" + k + ")", x, () -> x.on(k));
        }
        MiceRegisters none = new MiceRegisters();
        for (int n = 0; n < 3; n++) {
            final int k = n;
            e.found("on(" + k + ") at first", none, () -> none.on(k), NOTHING);
        }
        MiceRegisters one = Checks.with("rl520l420m02");
        one.keep(1);
        e.found("on(0), 1 is kept", one, () -> one.on(0), NOTHING);
        e.found("on(2), 1 is kept", one, () -> one.on(2), NOTHING);
        e.due("on(1)", one.on(1), 0);
    }

    /** What is done behind keep() doesn't change what is kept, nor does on() change what is kept elsewhere. */
    private static void onFromElsewhere() {
        MiceRegisters x = Checks.with("rl909l405m03y12");
        e.says("The REGISTER is as it was kept: how many DEEDS.");
        x.cheese(1, 3);
        x.year();
        x.cat(0);
        x.keep(0);
        x.keep(1);
        x.keep(2);
        long three = x.digest();
        x.undo(1);
        x.wax(0);
        x.wax(1);
        x.year();
        e.due("undone and done otherwise", x.on(0), 3);
        e.due("as it was", x.digest(), three);
        x.year();
        e.due("a YEAR more", x.on(1), 3);
        e.due("as it was, again", x.digest(), three);
        e.due("its DEEDS, too", x.undo(0), 3);
        e.due("on(2) behind it", x.on(2), 3);
        e.due("as it was, a third time", x.digest(), three);
        e.due("the CAT was the third DEED", x.undo(2), 1);
        e.due("no CAT", x.count(7), NONE);
        x.undo(0);
        x.wax(1);
        x.cheese(0, 9);
        e.due("other DEEDS from the first one on", x.on(0), 3);
        e.due("as it was, a fourth time", x.digest(), three);
        x.undo(0);
        x.cheese(1, 8);
        x.year();
        e.due("more of CHEESE in the first one", x.on(1), 3);
        e.due("as it was, a fifth time", x.digest(), three);
    }
}
