/** Promises 10 to 14, sentence by sentence, at each edge and on both sides of it. */
public final class RegisterEdgesTest {
    private static final int MIN = Integer.MIN_VALUE, MAX = Integer.MAX_VALUE, NONE = MiceRegisters.NONE;
    private static final int NOTHING = 1, UNLIKE = 3;
    private static final int[] NO_TEXTS = {-1, 4, MIN, MAX};
    private static final Edges e = new Edges("RegisterEdgesTest");

    public static void main(String[] args) {
        fault();
        register();
        registerRefused();
        line();
        lineWanted();
        mouse();
        mouseWants();
        markOfYoungAndOld();
        markOfHungry();
        markOfWhiteAndGreedy();
        markRefused();
        e.end();
    }

    private static void fault() {
        MiceRegisters x = new MiceRegisters();
        e.promise(10);
        e.says("A FAULT of a TEXT; NONE: there is none.");
        x.text(0, 0);
        e.still("of 0 bytes", x, () -> x.fault(0), 0);
        Checks.write(x, 3, "rl101m0");
        e.still("one byte too few", x, () -> x.fault(3), 7);
        Checks.write(x, 3, "rl101m01");
        e.still("none", x, () -> x.fault(3), NONE);
        Checks.write(x, 3, "rl101m011");
        e.still("one byte too many", x, () -> x.fault(3), 8);
        Checks.write(x, 3, " ".repeat(52) + "rl101m01");
        e.still("none, of 60 bytes", x, () -> x.fault(3), NONE);
        x.put(3, 59, 48);
        e.still("at the last of 60 bytes", x, () -> x.fault(3), 59);
        e.says("BAD; NOTHING.");
        for (int t : NO_TEXTS) {
            e.bad("fault(" + t + ")", x, () -> x.fault(t));
        }
        e.found("missing", x, () -> x.fault(1), NOTHING);
    }

    private static void register() {
        MiceRegisters x = new MiceRegisters();
        Checks.write(x, 0, "rl101m01");
        Checks.write(x, 3, "rl940l001l540l540l540l540l540l540 m09y79o29h39");
        e.promise(11);
        e.says("A REGISTER by a TEXT");
        e.due("one LINE, one MOUSE", x.register(0), 1);
        e.due("one LINE", x.count(0), 1);
        e.due("eight LINES, four MICE", x.register(3), 4);
        e.due("eight LINES", x.count(0), 8);
        e.due("LETTERS of LINE 1", Checks.line(x, 1, 1), 1);
        e.due("where MOUSE 1 is", Checks.mouse(x, 1, 1), 7);
        e.says("(anew: YEAR 0, no CHEESE, CAT, WAX, no DEEDS; kept REGISTERS go): how many MICE.");
        x.cheese(0, 9);
        x.cat(7);
        x.wax(5);
        x.year();
        for (int k = 0; k < 3; k++) {
            x.keep(k);
        }
        e.due("by the same TEXT", x.register(3), 4);
        e.due("YEAR", x.count(2), 0);
        e.due("CHEESE", x.count(8), 0);
        e.due("CAT", x.count(7), NONE);
        e.due("WAX", x.count(6), 0);
        e.due("DEEDS", x.count(3), 0);
        e.due("LETTERS", x.count(4), 281);
        e.due("where MOUSE 0 is", Checks.mouse(x, 0, 1), 0);
        e.due("kept REGISTERS", x.count(13), 0);
        for (int n = 0; n < 3; n++) {
            final int k = n;
            e.found("on(" + k + ")", x, () -> x.on(k), NOTHING);
        }
        x.put(3, 1, 0);
        e.due("the TEXT may change then", x.count(4), 281);
        x.wax(0);
        x.undo(0);
        e.due("also for what is undone", x.count(4), 281);
    }

    private static void registerRefused() {
        MiceRegisters x = Checks.with("rl940l001 m09y19");
        x.year();
        x.keep(1);
        e.says("BAD; NOTHING; STATE: a FAULT.");
        for (int t : NO_TEXTS) {
            e.bad("register(" + t + ")", x, () -> x.register(t));
        }
        Checks.write(x, 1, "rl101m00");
        e.state("a FAULT, and all stays, kept REGISTERS too", x, () -> x.register(1));
        x.put(1, 7, 49);
        e.due("no FAULT", x.register(1), 1);
        e.says("(STATE behind NOTHING.)");
        e.found("missing", x, () -> x.register(2), NOTHING);
        x.text(2, 0);
        e.state("there, of 0 bytes: a FAULT", x, () -> x.register(2));
    }

    private static void line() {
        MiceRegisters x = Checks.with("rl001l940l110m29");
        e.promise(12);
        e.says("Of a LINE: 0 by how much it is WRONG, 1 how many LETTERS it had, 2 how many are left,");
        e.told("WRONG by 0", x, x.line(0, 0), 1, 0);
        e.told("WRONG by 9", x, x.line(1, 0), 1, 9);
        e.told("it had 1", x, x.line(0, 1), 1, 1);
        e.told("it had 40", x, x.line(1, 1), 1, 40);
        e.told("40 are left", x, x.line(1, 2), 1, 40);
        for (int y = 1; y <= 5; y++) {
            x.year();
            e.told("left behind " + y, x, x.line(1, 2), 1, Math.max(0, 40 - 9 * y));
            e.told("it had 40, all the same", x, x.line(1, 1), 1, 40);
        }
        e.told("WRONG by 9, all the same", x, x.line(1, 0), 1, 9);
        e.says("3 its CHEESE, 4 whether it is WAXED (1, 0),");
        e.told("no CHEESE", x, x.line(2, 3), 1, 0);
        x.cheese(2, 9);
        x.cheese(2, 9);
        x.cheese(2, 2);
        e.told("20 of CHEESE", x, x.line(2, 3), 1, 20);
        e.told("none elsewhere", x, x.line(1, 3), 1, 0);
        e.told("not WAXED", x, x.line(2, 4), 1, 0);
        x.wax(2);
        e.told("WAXED", x, x.line(2, 4), 1, 1);
        e.told("not elsewhere", x, x.line(1, 4), 1, 0);
        x.wax(2);
        e.told("no more", x, x.line(2, 4), 1, 0);
    }

    private static void lineWanted() {
        MiceRegisters x = Checks.with("rl503l203l001l001l001l001l001l501 m03m02m04y73");
        e.says("5 MICE that want it next YEAR, as it is now (bits), told by asked(): 1.");
        e.told("0, 1, 2, and the nearest like one for 3", x, x.line(0, 5), 1, 7);
        e.told("3 alone, at LINE 7", x, x.line(7, 5), 1, 8);
        e.told("none, since LINE 0 is not yet eaten up", x, x.line(1, 5), 1, 0);
        x.wax(0);
        e.told("WAXED: none", x, x.line(0, 5), 1, 0);
        e.told("then all three want the next", x, x.line(1, 5), 1, 7);
        x.cat(7);
        e.told("CAT: none", x, x.line(7, 5), 1, 0);
        e.told("then all four", x, x.line(1, 5), 1, 15);
        e.says("BAD.");
        for (int l : new int[] {-1, 8, MIN, MAX}) {
            e.bad("line(" + l + ", 0)", x, () -> x.line(l, 0));
        }
        for (int what : new int[] {-1, 6, MIN, MAX}) {
            e.bad("line(0, " + what + ")", x, () -> x.line(0, what));
        }
        MiceRegisters two = Checks.with("rl503l203m03");
        e.due("line(1, 0) of two", two.line(1, 0), 1);
        e.bad("line(2, 0) of two", two, () -> two.line(2, 0));
        MiceRegisters none = new MiceRegisters();
        e.bad("line(0, 0) of none", none, () -> none.line(0, 0));
    }

    private static void mouse() {
        e.promise(13);
        e.says("Of a MOUSE: 0 the KIND, 1 the LINE where it is, 2 its TEETH, 3 how much it EATS in a YEAR,");
        int[] eats1 = {1, 1, 1, 2, 1, 2};
        int[] eats9 = {9, 9, 9, 18, 5, 18};
        for (int kind = 0; kind < 6; kind++) {
            char letter = "myohwg".charAt(kind);
            MiceRegisters x = Checks.with("rl101l101l101l101l101l101l101l101" + letter + "01" + letter + "79");
            e.told("KIND of " + letter, x, x.mouse(0, 0), 1, kind);
            e.told("LINE 0", x, x.mouse(0, 1), 1, 0);
            e.told("LINE 7", x, x.mouse(1, 1), 1, 7);
            e.told("TEETH 1", x, x.mouse(0, 2), 1, 1);
            e.told("TEETH 9", x, x.mouse(1, 2), 1, 9);
            e.told("EATS by 1", x, x.mouse(0, 3), 1, eats1[kind]);
            e.told("EATS by 9", x, x.mouse(1, 3), 1, eats9[kind]);
        }
        MiceRegisters y = Checks.with("rl140l540m01");
        y.year();
        e.told("where it is behind a YEAR", y, y.mouse(0, 1), 1, 1);
    }

    private static void mouseWants() {
        MiceRegisters x = Checks.with("rl502l340m09m09");
        e.says("4 the LINE that it wants next YEAR, as it is now (NONE: none), told by asked(): 1.");
        e.told("the first one", x, x.mouse(0, 4), 1, 0);
        e.told("the second one, too: it is not yet eaten up", x, x.mouse(1, 4), 1, 0);
        x.cat(0);
        e.told("with the CAT", x, x.mouse(0, 4), 1, 1);
        x.wax(1);
        e.told("none", x, x.mouse(0, 4), 1, NONE);
        MiceRegisters y = Checks.with("rl020l120m02");
        e.told("liked by 0", y, y.mouse(0, 4), 1, NONE);
        y.cheese(1, 1);
        e.told("liked by 1", y, y.mouse(0, 4), 1, 1);
        e.says("BAD.");
        for (int i : new int[] {-1, 2, 4, MIN, MAX}) {
            e.bad("mouse(" + i + ", 0) of two", x, () -> x.mouse(i, 0));
        }
        for (int what : new int[] {-1, 5, MIN, MAX}) {
            e.bad("mouse(0, " + what + ")", x, () -> x.mouse(0, what));
        }
        MiceRegisters none = new MiceRegisters();
        e.bad("mouse(0, 0) of none", none, () -> none.mouse(0, 0));
    }

    private static void markOfYoungAndOld() {
        MiceRegisters x = Checks.with("rl004l104l004l004l004l004l004l904y09o01w01");
        e.promise(14);
        e.says("What a MOUSE that IS of a KIND tells: a YOUNG one how many LINES it LIKES by more than 0,");
        e.still("WRONG by 1 and by 9, however far", x, () -> x.mark(0, 1), 2);
        x.cheese(3, 1);
        e.still("with CHEESE 1 on another", x, () -> x.mark(0, 1), 3);
        x.wax(7);
        e.still("it LIKES a WAXED one", x, () -> x.mark(0, 1), 3);
        MiceRegisters none = Checks.with("rl004y09");
        e.still("none", none, () -> none.mark(0, 1), 0);
        MiceRegisters all = Checks.with("rl104l104l104l104l104l104l104l104y09");
        e.still("all eight", all, () -> all.mark(0, 1), 8);
        e.says("an OLD one (WHITE, too) how many LINES are WRONG by 3 or less,");
        e.still("0 and 1 are, 9 is not", x, () -> x.mark(1, 2), 7);
        e.still("a WHITE one", x, () -> x.mark(2, 2), 7);
        MiceRegisters three = Checks.with("rl301l401l201o01w01");
        e.still("2 and 3 are, 4 is not", three, () -> three.mark(0, 2), 2);
        three.cheese(0, 9);
        e.still("CHEESE or not", three, () -> three.mark(1, 2), 2);
        MiceRegisters four = Checks.with("rl401l901o01");
        e.still("none", four, () -> four.mark(0, 2), 0);
    }

    private static void markOfHungry() {
        e.says("a HUNGRY one (GREEDY, too) in how many YEARS it would eat up the LINE where it is alone,");
        int[][] dues = {{1, 1}, {5, 1}, {6, 1}, {7, 2}, {12, 2}, {13, 3}, {40, 7}};
        for (int[] due : dues) {
            String text = "rl0" + due[0] / 10 + due[0] % 10 + "h03g03";
            MiceRegisters x = Checks.with(text);
            e.still(due[0] + " LETTERS by 6", x, () -> x.mark(0, 3), due[1]);
            e.still(due[0] + " LETTERS by 6, a GREEDY one", x, () -> x.mark(1, 3), due[1]);
        }
        MiceRegisters x = Checks.with("rl540l540h01h09");
        e.still("40 LETTERS by 2", x, () -> x.mark(0, 3), 20);
        e.still("40 LETTERS by 18", x, () -> x.mark(1, 3), 3);
        x.year();
        e.still("20 left, by 2", x, () -> x.mark(0, 3), 10);
        e.still("20 left, by 18", x, () -> x.mark(1, 3), 2);
        x.year();
        e.still("eaten up", x, () -> x.mark(1, 3), 0);
        MiceRegisters far = Checks.with("rl004l904h02");
        e.still("where it is, though it wants another", far, () -> far.mark(0, 3), 1);
    }

    private static void markOfWhiteAndGreedy() {
        e.says("a WHITE one how much less it EATS than a MOUSE of its TEETH,");
        int[] less = {0, 0, 1, 1, 2, 2, 3, 3, 4};
        for (int teeth = 1; teeth <= 9; teeth++) {
            MiceRegisters x = Checks.with("rl001w0" + teeth);
            e.still("TEETH " + teeth, x, () -> x.mark(0, 4), less[teeth - 1]);
        }
        e.says("a GREEDY one how much CHEESE there is in all.");
        MiceRegisters x = Checks.with("rl001l001l001l001l001l001l001l001g01");
        e.still("none", x, () -> x.mark(0, 5), 0);
        x.cheese(7, 1);
        e.still("1", x, () -> x.mark(0, 5), 1);
        x.cheese(7, 1);
        for (int l = 0; l < 8; l++) {
            for (int n : l < 7 ? new int[] {9, 9, 2} : new int[] {9, 9}) {
                x.cheese(l, n);
            }
        }
        e.still("20 on each", x, () -> x.mark(0, 5), 160);
    }

    private static void markRefused() {
        MiceRegisters x = Checks.with("rl501m01y01o01h01");
        MiceRegisters y = Checks.with("rl501w01g01");
        e.says("BAD: also KIND 0;");
        for (int i : new int[] {-1, 4, MIN, MAX}) {
            e.bad("mark(" + i + ", 1)", x, () -> x.mark(i, 1));
        }
        e.bad("mark(2, 5) of two", y, () -> y.mark(2, 5));
        for (int kind : new int[] {0, -1, 6, MIN, MAX}) {
            for (int n = 0; n < 4; n++) {
                final int i = n;
                e.bad("mark(" + i + ", " + kind + ")", x, () -> x.mark(i, kind));
            }
        }
        MiceRegisters none = new MiceRegisters();
        e.bad("no MICE", none, () -> none.mark(0, 1));
        e.says("UNLIKE.");
        unlike(x, 0, 1, 2, 3, 4, 5);
        unlike(x, 1, 2, 3, 4, 5);
        unlike(x, 2, 1, 3, 4, 5);
        unlike(x, 3, 1, 2, 4, 5);
        unlike(y, 0, 1, 3, 5);
        unlike(y, 1, 1, 2, 4);
    }

    private static void unlike(MiceRegisters x, int i, int... kinds) {
        for (int kind : kinds) {
            e.found("mark(" + i + ", " + kind + ")", x, () -> x.mark(i, kind), UNLIKE);
        }
    }
}
