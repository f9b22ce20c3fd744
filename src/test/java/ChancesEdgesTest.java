import java.math.BigInteger;

/** Promises 33 to 36, sentence by sentence, at each edge and on both sides of it. */
public final class ChancesEdgesTest {
    private static final int MIN = Integer.MIN_VALUE, MAX = Integer.MAX_VALUE, NONE = MiceRegisters.NONE;
    private static final Edges e = new Edges("ChancesEdgesTest");

    public static void main(String[] args) {
        duelBounds();
        duelByTurns();
        duelRefused();
        odds();
        mid();
        lotsOneByOne();
        lotsCut();
        lotsInARow();
        lotsRefused();
        e.end();
    }

    private static MiceRegisters withCheese(String text, int... cheeses) {
        MiceRegisters x = Checks.with(text);
        for (int l = 0; l < cheeses.length; l++) {
            for (int rest = cheeses[l]; rest > 0; rest -= 9) {
                x.cheese(l, Math.min(9, rest));
            }
        }
        return x;
    }

    private static void duelIs(String what, MiceRegisters x, int a, int b, int... dues) {
        long before = x.digest();
        for (int n = 0; n < dues.length; n++) {
            e.told(what + ", duel(" + a + ", " + b + ", " + n + ")", x, x.duel(a, b, n), 1, dues[n]);
        }
        e.due(what + ", all stays", x.digest(), before);
    }

    /** The MOUSE at LINE 0 wants LINE 1 by 25; LINE 0 by 23 with 18 of CHEESE there. */
    private static void duelByTurns() {
        e.says("By turns two lay CHEESE 1 on any LINE, or none (20 at most on each), n (0 .. 2) times each, "
                + "the first one begins; then a YEAR goes by:");
        String text = "rl510l610m03";
        duelIs("two on LINE 0 are enough, none goes on LINE 1", withCheese(text, 18, 20), 1, 0, -3, -3, 3);
        duelIs("one on LINE 0 is enough", withCheese(text, 19, 20), 1, 0, -3, 3, 3);
        duelIs("two are too few", withCheese(text, 17, 20), 1, 0, -3, -3, -3);
        // one turn each: the other one's goes on LINE 1; two: the first one's second one can't be answered there
        duelIs("one goes on LINE 1", withCheese(text, 18, 19), 1, 0, -3, -3, 3);
        duelIs("two go on LINE 1", withCheese(text, 18, 18), 1, 0, 3, 3, 3);
        duelIs("drawn to LINE 1, and back", withCheese(text, 17, 17), 0, 1, -3, -3, -3);
        duelIs("nothing can be laid", withCheese("rl510l510m13", 20, 20), 0, 1, 3, 3, 3);
        // the first one must lay none: on LINE 0 the other one's next one would draw the MOUSE there
        duelIs("none is best", withCheese("rl610l610m03", 17, 20), 0, 1, 3, 3, -3);
        // whatever the first one lays, the other one leaves MOUSE 1 at LINE 2; if the other one began, it would be at LINE 1
        duelIs("the first one begins", Checks.with("rl510l410l610m04m12"), 0, 1, -4, -4);
        MiceRegisters cheese = Checks.with("rl110l010m03");
        cheese.cheese(1, 2);
        // the CHEESE gets less behind the YEAR, not ahead of it: 2 - 1 against 1, so it stays, and 1 more draws it
        duelIs("the YEAR goes by last", cheese, 0, 1, -3, -3, -3);
        duelIs("the YEAR goes by last, from the other side", cheese, 1, 0, 3, 3, 3);
    }

    private static void duelBounds() {
        e.promise(33);
        e.says("how many LETTERS more are left of LINE a than of LINE b, the first one wanting that to be much, "
                + "the other one little, told by asked(): 1.");
        MiceRegisters most = Checks.with("rl940l901m11");
        duelIs("40 more", most, 0, 1, 40, 40, 40);
        duelIs("40 less", most, 1, 0, -40, -40, -40);
        MiceRegisters like = Checks.with("rl940l940l940m21");
        like.cheese(2, 9);
        duelIs("as many", like, 0, 1, 0, 0, 0);
        MiceRegisters eight = Checks.with("rl540l040l040l040l040l040l040l540m09");
        duelIs("LINES 0 and 7", eight, 0, 7, -9, -9, -9);
        duelIs("LINES 7 and 0", eight, 7, 0, 9, 9, 9);
    }

    private static void duelRefused() {
        MiceRegisters x = Checks.with("rl510l610l610m03");
        e.says("BAD (also the same).");
        for (int l : new int[] {-1, 3, 8, MIN, MAX}) {
            e.bad("duel(" + l + ", 0, 0)", x, () -> x.duel(l, 0, 0));
            e.bad("duel(0, " + l + ", 0)", x, () -> x.duel(0, l, 0));
        }
        for (int n = 0; n < 3; n++) {
            final int l = n;
            e.bad("duel(" + l + ", " + l + ", " + l + "), the same", x, () -> x.duel(l, l, l));
        }
        for (int n : new int[] {-1, 3, MIN, MAX}) {
            e.bad("duel(0, 1, " + n + ")", x, () -> x.duel(0, 1, n));
        }
        e.due("duel(0, 2, 2)", x.duel(0, 2, 2), 1);
        e.due("duel(2, 0, 0)", x.duel(2, 0, 0), 1);
        MiceRegisters none = new MiceRegisters();
        e.bad("no LINES", none, () -> none.duel(0, 1, 0));
    }

    private static void odds() {
        MiceRegisters x = Checks.with("rl503l505m03m03");
        e.promise(34);
        e.says("Chances that a LINE has as many LETTERS left behind that YEAR as now: 1.");
        e.parts("p 0: none sleeps", x, x.odds(0, 0), 0, 1);
        e.parts("p 12: all sleep", x, x.odds(0, 12), 1, 1);
        e.parts("p 1: both sleep", x, x.odds(0, 1), 1, 144);
        e.parts("p 11: both sleep", x, x.odds(0, 11), 121, 144);
        e.parts("p 1: not both awake", x, x.odds(1, 1), 23, 144);
        MiceRegisters four = Checks.with("rl540l001m01m01m01m01");
        e.parts("four, p 1", four, four.odds(0, 1), 1, 20736);
        e.parts("four, p 11", four, four.odds(0, 11), 14641, 20736);
        e.parts("four, p 6", four, four.odds(0, 6), 1, 16);
        e.parts("that none wants", four, four.odds(1, 0), 1, 1);
        MiceRegisters gone = Checks.with("rl901m01");
        gone.year();
        e.parts("eaten up: none left, as now", gone, gone.odds(0, 0), 1, 1);
        e.due("asked() is not told", x.asked(), 0);
        e.says("BAD.");
        for (int p : new int[] {-1, 13, MIN, MAX}) {
            e.bad("odds(0, " + p + ")", x, () -> x.odds(0, p));
        }
        for (int l : new int[] {-1, 2, 8, MIN, MAX}) {
            e.bad("odds(" + l + ", 0)", x, () -> x.odds(l, 0));
        }
        MiceRegisters none = new MiceRegisters();
        e.bad("no LINES", none, () -> none.odds(0, 0));
    }

    private static void mid() {
        MiceRegisters x = Checks.with("rl540m01");
        e.promise(35);
        e.says("The mean of how many LETTERS are left in all behind it: 1.");
        e.parts("p 0", x, x.mid(0), 39, 1);
        e.parts("p 12", x, x.mid(12), 40, 1);
        e.parts("p 1", x, x.mid(1), 469, 12);
        e.parts("p 11", x, x.mid(11), 479, 12);
        e.parts("p 6", x, x.mid(6), 79, 2);
        MiceRegisters four = Checks.with("rl501m01m01m01m01");
        // 1 is left if all four sleep, else none
        e.parts("four, p 1", four, four.mid(1), 1, 20736);
        e.parts("four, p 11", four, four.mid(11), 14641, 20736);
        MiceRegisters all = Checks.with("rl040l040l040l040l040l040l040l040m09");
        e.parts("320", all, all.mid(5), 320, 1);
        four.year();
        e.parts("none", four, four.mid(5), 0, 1);
        e.due("asked() is not told", x.asked(), 0);
        e.says("BAD; STATE: no MICE.");
        MiceRegisters none = new MiceRegisters();
        for (int p : new int[] {-1, 13, MIN, MAX}) {
            e.bad("mid(" + p + ")", x, () -> x.mid(p));
            e.bad("mid(" + p + "), ahead of STATE", none, () -> none.mid(p));
        }
        e.state("mid(0)", none, () -> none.mid(0));
        e.state("mid(12)", none, () -> none.mid(12));
    }

    /** The seed of which the first number is this one. */
    private static int seedOf(long number) {
        BigInteger modulus = BigInteger.valueOf(2147483647);
        BigInteger back = BigInteger.valueOf(48271).modInverse(modulus);
        return BigInteger.valueOf(number).multiply(back).mod(modulus).intValueExact();
    }

    private static void lotsOneByOne() {
        e.promise(36);
        e.says("for each a number: LINE it modulo how many there are, by what it by 8, cut, modulo 8 is: "
                + "0, 1 CHEESE 1 more than it by 64, cut, modulo 5 is laid there (20 at most), 2 the CAT is set there, "
                + "3 it is WAXED, or no more, else a YEAR:");
        for (int what = 0; what < 8; what++) {
            for (int line = 0; line < 8; line++) {
                lotIs(5 * 64 + 8 * what + line, what, line, 1);
            }
        }
        for (int more = 0; more < 6; more++) {
            lotIs(64 * more + 8, 1, 0, more % 5 + 1);
            lotIs(64 * more + 7, 0, 7, more % 5 + 1);
        }
        lotIs(1, 0, 1, 1);
        lotIs(2147483646, 7, 6, 0);
        MiceRegisters seven = Checks.with("rl540l540l540l540l540l540l540m01");
        seven.lots(1, seedOf(64 + 7));
        e.due("of seven LINES, 71: LINE 1", Checks.line(seven, 1, 3), 2);
        MiceRegisters one = Checks.with("rl540m01");
        one.lots(1, seedOf(64 + 7));
        e.due("of one LINE, 71: LINE 0", Checks.line(one, 0, 3), 2);
    }

    /** One DEED by a number, with eight LINES and a MOUSE that eats 1 of LINE 0. */
    private static void lotIs(long number, int what, int line, int cheese) {
        MiceRegisters x = Checks.with("rl540l540l540l540l540l540l540l540m01");
        String call = "number " + number;
        e.due(call, x.lots(1, seedOf(number)), what < 4 ? 320 : 319);
        e.due(call + ", one DEED", x.count(3), 1);
        e.due(call + ", CHEESE in all", x.count(8), what < 2 ? cheese : 0);
        e.due(call + ", CHEESE there", Checks.line(x, line, 3), what < 2 ? cheese : 0);
        e.due(call + ", CAT", x.count(7), what == 2 ? line : NONE);
        e.due(call + ", WAXED", x.count(6), what == 3 ? 1 << line : 0);
        e.due(call + ", YEAR", x.count(2), what < 4 ? 0 : 1);
    }

    private static void lotsCut() {
        e.says("laid there (20 at most)");
        int five = seedOf(4 * 64);
        for (int there = 15; there <= 20; there++) {
            MiceRegisters x = withCheese("rl540m01", there);
            int deeds = x.count(3);
            x.lots(1, five);
            e.due("5 on " + there, Checks.line(x, 0, 3), 20);
            e.due("5 on " + there + ", a DEED", x.count(3), deeds + 1);
            x.undo(deeds);
            e.due("5 on " + there + ", undone", Checks.line(x, 0, 3), there);
        }
        MiceRegisters less = withCheese("rl540m01", 14);
        less.lots(1, five);
        e.due("5 on 14", Checks.line(less, 0, 3), 19);
        e.says("2 the CAT is set there,");
        MiceRegisters cat = Checks.with("rl540l540m01");
        cat.lots(1, seedOf(64 + 16));
        cat.lots(1, seedOf(64 + 16));
        e.due("where it is: there", cat.count(7), 0);
        e.due("where it is: a DEED", cat.count(3), 2);
        cat.lots(1, seedOf(64 + 17));
        e.due("elsewhere", cat.count(7), 1);
        e.says("3 it is WAXED, or no more,");
        MiceRegisters wax = Checks.with("rl540l540m01");
        wax.lots(1, seedOf(64 + 25));
        e.due("it is", wax.count(6), 2);
        wax.lots(1, seedOf(64 + 25));
        e.due("no more", wax.count(6), 0);
    }

    /** By seed 1: 48271, 182605794, 1291394886: 5 of CHEESE on LINE 1, a YEAR, 1 of CHEESE on LINE 0. */
    private static void lotsInARow() {
        e.says("n (1 .. 20) DEEDS truly by LOTS of a seed:");
        MiceRegisters one = Checks.with("rl510l510m03");
        e.due("lots(1, 1)", one.lots(1, 1), 20);
        e.due("one DEED", one.count(3), 1);
        e.due("CHEESE on 1", Checks.line(one, 1, 3), 5);
        MiceRegisters three = Checks.with("rl510l510m03");
        e.due("lots(3, 1)", three.lots(3, 1), 17);
        e.due("three DEEDS", three.count(3), 3);
        e.due("CHEESE on 0", Checks.line(three, 0, 3), 1);
        e.due("CHEESE on 1, a YEAR later", Checks.line(three, 1, 3), 4);
        MiceRegisters twenty = Checks.with("rl510l510m03");
        twenty.lots(20, 1);
        e.due("twenty DEEDS", twenty.count(3), 20);
        MiceRegisters steps = Checks.with("rl510l510m03");
        long seed = 1;
        for (int n = 0; n < 20; n++) {
            steps.lots(1, (int) seed);
            seed = seed * 48271 % 2147483647;
        }
        e.due("one by one, each from the one ahead", steps.digest(), twenty.digest());
        e.due("undone", twenty.undo(3), 17);
        e.due("to the first three", twenty.digest(), three.digest());
        e.says("how many LETTERS are left then.");
        MiceRegisters gone = Checks.with("rl901m09");
        gone.year();
        e.due("none", gone.lots(20, 7), 0);
        e.due("asked() is not told", gone.asked(), 0);
    }

    private static void lotsRefused() {
        MiceRegisters x = Checks.with("rl540l540m01");
        MiceRegisters none = new MiceRegisters();
        e.says("BAD;");
        for (int n : new int[] {0, 21, -1, MIN, MAX}) {
            e.bad("lots(" + n + ", 1)", x, () -> x.lots(n, 1));
        }
        for (int seed : new int[] {0, -1, MAX, MIN}) {
            e.bad("lots(1, " + seed + ")", x, () -> x.lots(1, seed));
        }
        e.due("lots(1, 2147483646): 2147435376, a YEAR", x.lots(1, 2147483646), 79);
        e.due("lots(1, 1): 48271, CHEESE on LINE 1", x.lots(1, 1), 79);
        e.due("two DEEDS", x.count(3), 2);
        e.says("STATE: no MICE;");
        e.state("lots(1, 1)", none, () -> none.lots(1, 1));
        e.state("lots(20, 2147483646)", none, () -> none.lots(20, 2147483646));
        e.bad("BAD is ahead, n", none, () -> none.lots(21, 1));
        e.bad("BAD is ahead, the seed", none, () -> none.lots(1, 0));
        e.says("FULL: with n more there would be more than 40 DEEDS.");
        x.undo(0);
        x.wax(0);
        x.lots(20, 5);
        e.full("21 and 20", x, () -> x.lots(20, 5));
        x.lots(19, 5);
        e.due("21 and 19", x.count(3), 40);
        e.full("40 and 1", x, () -> x.lots(1, 5));
        x.undo(39);
        e.full("39 and 2", x, () -> x.lots(2, 5));
        x.lots(1, 5);
        e.due("39 and 1", x.count(3), 40);
        x.undo(20);
        x.lots(20, 5);
        e.due("20 and 20", x.count(3), 40);
        e.says("(FULL last.)");
        e.bad("BAD ahead of FULL, n", x, () -> x.lots(21, 5));
        e.bad("BAD ahead of FULL, the seed", x, () -> x.lots(1, 0));
    }
}
