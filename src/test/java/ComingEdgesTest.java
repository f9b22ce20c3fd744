/** Promises 22 to 27, sentence by sentence, at each edge and on both sides of it. */
public final class ComingEdgesTest {
    private static final int MIN = Integer.MIN_VALUE, MAX = Integer.MAX_VALUE, NONE = MiceRegisters.NONE;
    private static final Edges e = new Edges("ComingEdgesTest");

    public static void main(String[] args) {
        likes();
        left();
        eaten();
        when();
        saveLeast();
        saveOnWhich();
        saveNoSuch();
        guard();
        guardRefused();
        e.end();
    }

    private static void likes() {
        MiceRegisters x = Checks.with("rl520m01y01o01h01");
        MiceRegisters y = Checks.with("rl520w01g01");
        e.promise(22);
        e.says("By how much a MOUSE LIKES a LINE that is WRONG by w (0 .. 9), with so much CHEESE (0 .. 20), "
                + "so far away (0 .. 7); below 0, too: 1, told by asked().");
        int[][] asked = {{0, 0, 0}, {9, 20, 7}, {9, 0, 0}, {0, 20, 0}, {0, 0, 7}, {3, 1, 1}, {4, 1, 1}, {3, 0, 3}};
        int[][] dues = {
            {0, 22, 9, 20, -7, 3, 4, 0},
            {0, 29, 9, 20, 0, 4, 5, 3},
            {0, 22, 9, 20, -7, 0, 4, -3},
            {0, 22, 9, 20, -7, 3, 4, 0},
            {0, 22, 9, 20, -7, 0, 4, -3},
            {0, 42, 9, 40, -7, 4, 5, 0}};
        for (int kind = 0; kind < 6; kind++) {
            MiceRegisters z = kind < 4 ? x : y;
            for (int n = 0; n < asked.length; n++) {
                int[] a = asked[n];
                String call = "KIND " + kind + ", likes(.., " + a[0] + ", " + a[1] + ", " + a[2] + ")";
                e.told(call, z, z.likes(kind % 4, a[0], a[1], a[2]), 1, dues[kind][n]);
            }
        }
        e.says("BAD.");
        for (int i : new int[] {-1, 4, MIN, MAX}) {
            e.bad("MOUSE " + i, x, () -> x.likes(i, 0, 0, 0));
        }
        e.bad("MOUSE 2 of two", y, () -> y.likes(2, 0, 0, 0));
        for (int w : new int[] {-1, 10, MIN, MAX}) {
            e.bad("w " + w, x, () -> x.likes(0, w, 0, 0));
        }
        for (int cheese : new int[] {-1, 21, MIN, MAX}) {
            e.bad("CHEESE " + cheese, x, () -> x.likes(0, 0, cheese, 0));
        }
        for (int far : new int[] {-1, 8, MIN, MAX}) {
            e.bad("far " + far, x, () -> x.likes(1, 0, 0, far));
        }
        MiceRegisters none = new MiceRegisters();
        e.bad("no MICE", none, () -> none.likes(0, 0, 0, 0));
    }

    private static void left() {
        MiceRegisters x = Checks.with("rl540l001m01");
        e.promise(23);
        e.says("How many LETTERS are left of a LINE behind n (0 .. 40) YEARS.");
        for (int n : new int[] {0, 1, 39, 40}) {
            e.still("left(0, " + n + ")", x, () -> x.left(0, n), 40 - n);
            e.still("left(1, " + n + ")", x, () -> x.left(1, n), 1);
        }
        x.year();
        e.still("behind a YEAR, left(0, 0)", x, () -> x.left(0, 0), 39);
        e.still("behind a YEAR, left(0, 39)", x, () -> x.left(0, 39), 0);
        e.still("behind a YEAR, left(0, 40)", x, () -> x.left(0, 40), 0);
        e.says("BAD.");
        for (int n : new int[] {-1, 41, MIN, MAX}) {
            e.bad("left(0, " + n + ")", x, () -> x.left(0, n));
        }
        for (int l : new int[] {-1, 2, 8, MIN, MAX}) {
            e.bad("left(" + l + ", 0)", x, () -> x.left(l, 0));
        }
        MiceRegisters none = new MiceRegisters();
        e.bad("no LINES", none, () -> none.left(0, 0));
    }

    private static void eaten() {
        MiceRegisters x = Checks.with("rl001l001l001l001l001l001l001l940m01y71");
        e.promise(24);
        e.says("LINES (bits) of which none is left behind n (0 .. 40) YEARS.");
        // MOUSE 0 is 7 away from LINE 7, and LIKES it by 2: both eat there, 2 a YEAR
        for (int n : new int[] {0, 1, 19}) {
            e.still("eaten(" + n + ")", x, () -> x.eaten(n), 0);
        }
        for (int n : new int[] {20, 39, 40}) {
            e.still("eaten(" + n + ")", x, () -> x.eaten(n), 128);
        }
        MiceRegisters one = Checks.with("rl540l001m01");
        e.still("39 YEARS, 1 is left", one, () -> one.eaten(39), 0);
        e.still("40 YEARS, none is left", one, () -> one.eaten(40), 1);
        MiceRegisters all = Checks.with("rl901l901l901l901m01m01m01m01");
        all.year();
        e.still("all, now", all, () -> all.eaten(0), 15);
        e.says("BAD;");
        for (int n : new int[] {-1, 41, MIN, MAX}) {
            e.bad("eaten(" + n + ")", x, () -> x.eaten(n));
        }
        e.says("STATE: no MICE.");
        MiceRegisters none = new MiceRegisters();
        e.state("eaten(0)", none, () -> none.eaten(0));
        e.state("eaten(40)", none, () -> none.eaten(40));
        e.bad("BAD is ahead, -1", none, () -> none.eaten(-1));
        e.bad("BAD is ahead, 41", none, () -> none.eaten(41));
    }

    private static void when() {
        MiceRegisters x = Checks.with("rl540l501l001m01");
        e.promise(25);
        e.says("In which YEAR (1 .. 40 from now on) a LINE is eaten up (0: it is).");
        e.still("in the 40th", x, () -> x.when(0), 40);
        MiceRegisters y = Checks.with("rl501l539m01");
        e.still("in the first", y, () -> y.when(0), 1);
        e.still("in the 40th, behind another", y, () -> y.when(1), 40);
        y.year();
        e.still("it is", y, () -> y.when(0), 0);
        e.still("from now on", y, () -> y.when(1), 39);
        MiceRegisters same = Checks.with("rl909m09");
        e.still("at once", same, () -> same.when(0), 1);
        MiceRegisters more = Checks.with("rl910m09");
        e.still("one LETTER more", more, () -> more.when(0), 2);
        e.says("NONE: in none of these.");
        e.still("in the 41st", x, () -> x.when(1), NONE);
        x.year();
        e.still("in the 40th from now on", x, () -> x.when(1), 40);
        e.still("never", x, () -> x.when(2), NONE);
        e.says("BAD.");
        for (int l : new int[] {-1, 3, 8, MIN, MAX}) {
            e.bad("when(" + l + ")", x, () -> x.when(l));
        }
        MiceRegisters none = new MiceRegisters();
        e.bad("no LINES", none, () -> none.when(0));
    }

    /** A YOUNG one at a LINE WRONG by 9 stays away for n YEARS if n + 7 lie elsewhere on one WRONG by 1 (n 2 .. 13). */
    private static void saveLeast() {
        MiceRegisters x = Checks.with("rl901l140y01");
        e.promise(26);
        e.says("The least CHEESE (0 .. 20 in all there) that, laid on one other LINE, leaves some of a LINE "
                + "behind n (1 .. 20) YEARS;");
        e.told("1 YEAR", x, x.save(0, 1), 9, 1);
        e.told("2 YEARS", x, x.save(0, 2), 9, 1);
        e.told("12 YEARS", x, x.save(0, 12), 19, 1);
        e.told("13 YEARS: 20", x, x.save(0, 13), 20, 1);
        e.still("14 YEARS: 21 would be", x, () -> x.save(0, 14), NONE);
        x.cheese(1, 1);
        e.told("1 there: 19 more", x, x.save(0, 13), 19, 1);
        e.still("1 there, 14 YEARS: 20 more would be", x, () -> x.save(0, 14), NONE);
        x.cheese(1, 9);
        x.cheese(1, 9);
        e.told("19 there: 1 more", x, x.save(0, 13), 1, 1);
        e.told("19 there, 12 YEARS: none", x, x.save(0, 12), 0, NONE);
        x.cheese(1, 1);
        e.told("20 there: none", x, x.save(0, 13), 0, NONE);
        e.still("20 there, 14 YEARS: no more can be laid", x, () -> x.save(0, 14), NONE);
        MiceRegisters other = Checks.with("rl505l701l040m01m29");
        // 1 on LINE 0 itself would draw MOUSE 0 there, so that it leaves LINE 1 to MOUSE 1: but it is to be another LINE
        e.told("not on the LINE itself", other, other.save(0, 1), 3, 2);
        MiceRegisters y = Checks.with("rl520l001m01");
        e.told("19 YEARS leave 1 of 20", y, y.save(0, 19), 0, NONE);
        // it goes to LINE 1 for one YEAR, by 5 against 5 + 1: then LINE 1 is eaten up
        e.told("20 YEARS would leave none", y, y.save(0, 20), 7, 1);
    }

    private static void saveOnWhich() {
        e.says("on which by asked() (of like ones the first; NONE: none is needed).");
        MiceRegisters x = Checks.with("rl140l502l140m11");
        e.told("0 and 2 are like", x, x.save(1, 2), 6, 0);
        MiceRegisters second = Checks.with("rl040l502l140m11");
        e.told("2 by less", second, second.save(1, 2), 6, 2);
        MiceRegisters last = Checks.with("rl901l040l040l040l040l040l040l140y01");
        e.told("LINE 7", last, last.save(0, 1), 9, 7);
        MiceRegisters waxed = Checks.with("rl140l502l140m11");
        waxed.wax(0);
        e.told("not a WAXED one", waxed, waxed.save(1, 2), 6, 2);
        MiceRegisters full = Checks.with("rl140l502l140m11");
        full.wax(0);
        full.cheese(2, 5);
        e.told("one more there", full, full.save(1, 2), 1, 2);
        MiceRegisters just = Checks.with("rl502l740m03");
        e.told("just none is needed: 5 against 6", just, just.save(0, 1), 0, NONE);
        MiceRegisters needed = Checks.with("rl502l640m03");
        e.told("just 1 is needed: 5 against 5", needed, needed.save(0, 1), 1, 1);
        MiceRegisters none = Checks.with("rl502l140m11");
        e.told("1 YEAR, none is needed", none, none.save(0, 1), 0, NONE);
        e.told("the other one, none is needed", none, none.save(1, 20), 0, NONE);
    }

    private static void saveNoSuch() {
        e.says("NONE: no such.");
        MiceRegisters one = Checks.with("rl501m01");
        e.still("there is no other LINE", one, () -> one.save(0, 1), NONE);
        MiceRegisters two = Checks.with("rl501l540m01");
        e.told("another LINE", two, two.save(0, 1), 2, 1);
        two.wax(1);
        e.still("the other LINE is WAXED", two, () -> two.save(0, 1), NONE);
        two.wax(1);
        two.cat(1);
        e.still("the CAT is at the other LINE", two, () -> two.save(0, 1), NONE);
        two.cat(NONE);
        two.year();
        e.still("it is eaten up", two, () -> two.save(0, 1), NONE);
        e.says("BAD.");
        MiceRegisters x = Checks.with("rl502l140m11");
        for (int n : new int[] {0, 21, -1, MIN, MAX}) {
            e.bad("save(0, " + n + ")", x, () -> x.save(0, n));
        }
        e.due("save(0, 20)", x.save(0, 20), NONE);
        for (int l : new int[] {-1, 2, 8, MIN, MAX}) {
            e.bad("save(" + l + ", 1)", x, () -> x.save(l, 1));
        }
        MiceRegisters none = new MiceRegisters();
        e.bad("no LINES", none, () -> none.save(0, 1));
    }

    private static void guard() {
        e.promise(27);
        e.says("At which LINE the CAT saves most LETTERS in all behind n (1 .. 20) YEARS (the first; wherever it is now); "
                + "how many are left then by asked().");
        MiceRegisters last = Checks.with("rl001l001l001l001l001l001l001l920m75");
        e.told("LINE 7", last, last.guard(1), 7, 27);
        MiceRegisters like = Checks.with("rl940l940m01");
        e.told("of like ones the first, 1 YEAR", like, like.guard(1), 0, 79);
        e.told("19 YEARS", like, like.guard(19), 0, 61);
        e.told("20 YEARS", like, like.guard(20), 0, 60);
        MiceRegisters more = Checks.with("rl903l907m05");
        // 1 YEAR: the CAT at 0 leaves 3 + 2, at 1 it leaves 7; 2 YEARS: 3, and 7 all the same
        e.told("one by more", more, more.guard(1), 1, 7);
        e.told("two YEARS", more, more.guard(2), 1, 7);
        for (int at = 0; at < 2; at++) {
            more.cat(at);
            e.told("wherever it is now, at " + at, more, more.guard(1), 1, 7);
            e.due("there it stays", more.count(7), at);
        }
        MiceRegisters worse = Checks.with("rl905l801l806w23h01m18");
        // without it 3, 0, 4 would be left; with it at 0: 5, 0, 0, at 1: 0, 1, 4, at 2: 0, 0, 6
        e.told("at some LINE, though it saves none", worse, worse.guard(1), 2, 6);
        MiceRegisters none = Checks.with("rl901l901m01m01");
        none.year();
        e.told("nothing is left", none, none.guard(20), 0, 0);
        MiceRegisters most = Checks.with("rl040l040l040l040l040l040l040l040m09");
        e.told("320 are left", most, most.guard(20), 0, 320);
    }

    private static void guardRefused() {
        MiceRegisters x = Checks.with("rl903l907m05");
        e.says("BAD;");
        for (int n : new int[] {0, 21, -1, MIN, MAX}) {
            e.bad("guard(" + n + ")", x, () -> x.guard(n));
        }
        e.says("STATE: no MICE.");
        MiceRegisters none = new MiceRegisters();
        e.state("guard(1)", none, () -> none.guard(1));
        e.state("guard(20)", none, () -> none.guard(20));
        e.bad("BAD is ahead, 0", none, () -> none.guard(0));
        e.bad("BAD is ahead, 21", none, () -> none.guard(21));
    }
}
