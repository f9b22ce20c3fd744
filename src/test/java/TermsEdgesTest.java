/** The terms of the document, sentence by sentence, at each edge and on both sides of it; TextEdges has those of a TEXT. */
public final class TermsEdgesTest {
    private static final int NONE = MiceRegisters.NONE;
    private static final Edges e = new Edges("TermsEdgesTest");

    public static void main(String[] args) {
        e.promise(0);
        calls();
        order();
        otherOrders();
        findings();
        told();
        sizes();
        TextEdges.all(e);
        kinds();
        likes();
        eats();
        yearAtFirst();
        whichLine();
        likedByMoreThanNothing();
        oneBehindTheOther();
        cheeseGetsLess();
        deeds();
        lots();
        aside();
        rowsOfLines();
        sleep();
        e.end();
    }

    private static void calls() {
        e.says("An object is used for at most 512 calls after it has been made; what later calls answer is free.");
        MiceRegisters x = Checks.with("rl501m01");
        for (int n = 11; n <= 511; n++) {
            e.due("call " + n, n % 2 == 1 ? x.wax(0) : x.undo(0), 1);
        }
        e.due("call 512", x.count(3), 1);
        MiceRegisters y = new MiceRegisters();
        for (int n = 1; n <= 511; n++) {
            y.at(0, 0);
        }
        e.due("call 512, all others refused", y.findings(1), 511);
    }

    private static MiceRegisters full() {
        MiceRegisters x = Checks.with("rl520l520m01");
        x.cheese(0, 9);
        x.cheese(0, 9);
        for (int d = 2; d < 40; d++) {
            x.wax(1);
        }
        return x;
    }

    private static void order() {
        e.says("Refused is, the first of these that fits, in this order: BAD -1 (a number that is none, or not as told), "
                + "FULL -2, STATE -4 (not now), SPENT -6 (more than told), FINDING -3 (finding() tells which),");
        MiceRegisters x = full();
        MiceRegisters none = new MiceRegisters();
        e.due("BAD", MiceRegisters.BAD, -1);
        e.due("FULL", MiceRegisters.FULL, -2);
        e.due("STATE", MiceRegisters.STATE, -4);
        e.due("SPENT", MiceRegisters.SPENT, -6);
        e.due("FINDING", MiceRegisters.FINDING, -3);
        e.still("BAD ahead of FULL", x, () -> x.cheese(2, 1), -1);
        e.still("BAD ahead of STATE", none, () -> none.eaten(41), -1);
        e.still("BAD ahead of STATE, set", none, () -> none.keep(3), -1);
        e.still("BAD ahead of FINDING", none, () -> none.lay(6, 0, 0), -1);
        e.still("BAD ahead of FINDING, SIZE", none, () -> none.row(6, -1), -1);
        e.still("STATE ahead of FINDING", none, () -> none.sure(1), -4);
        e.says("NONE -9.");
        e.due("NONE", NONE, -9);
        e.says("What is refused changes nothing but finding(), findings().");
        e.bad("BAD", x, () -> x.wax(8));
        e.full("FULL", x, () -> x.wax(0));
        e.state("STATE", x, () -> x.cheese(0, 3));
        e.found("FINDING", x, () -> x.mark(0, 5), 3);
    }

    private static void otherOrders() {
        e.says("unless a call says so otherwise.");
        MiceRegisters x = full();
        e.full("FULL", x, () -> x.cheese(0, 2));
        e.state("cheese(), FULL last", x, () -> x.cheese(0, 3));
        e.state("cat(), FULL last", x, () -> x.cat(NONE));
        e.found("register(), STATE behind NOTHING", x, () -> x.register(3), 1);
    }

    private static void findings() {
        MiceRegisters x = Checks.with("rl520l520m01");
        x.row(0, 0);
        x.row(1, 11);
        x.text(1, 0);
        e.says("FINDINGS: 1 NOTHING (a ROW, a TEXT, a kept REGISTER that is missing),");
        e.found("a ROW", x, () -> x.tear(5), 1);
        e.found("a TEXT", x, () -> x.fault(3), 1);
        e.found("a kept REGISTER", x, () -> x.on(2), 1);
        e.says("2 BEYOND (a place of a ROW, a TEXT that there is not),");
        e.found("of a ROW", x, () -> x.at(0, 0), 2);
        e.found("of a TEXT", x, () -> x.put(1, 0, 0), 2);
        e.says("3 UNLIKE (a MOUSE of another KIND; a number that is none),");
        e.found("a MOUSE of another KIND", x, () -> x.mark(0, 1), 3);
        Checks.fill(x, 2, 2);
        e.found("a number that is none", x, () -> x.places(0, 2), 3);
        e.says("4 NOUGHT (shared among none; nothing fits),");
        e.found("shared among none", x, () -> x.mean(0), 4);
        e.found("nothing fits", x, () -> x.sure(1), 4);
        e.says("5 SIZE (fewer than none; too many, not as many as due).");
        e.found("fewer than none", x, () -> x.text(0, -1), 5);
        e.found("too many", x, () -> x.kinds(0, 1), 5);
        e.found("not as many as due", x, () -> x.look(0, 0), 5);
    }

    private static void told() {
        MiceRegisters x = Checks.with("rl520l520m01");
        e.says("Chances, means, numbers of sets are told by upper(), lower(), in lowest terms, the lower number above 0 (0 by 1).");
        e.parts("6 of 12", x, x.odds(0, 6), 1, 2);
        e.parts("5 of 12, nothing to cut", x, x.odds(0, 5), 5, 12);
        e.parts("12 of 12", x, x.odds(0, 12), 1, 1);
        e.parts("0 of 12", x, x.odds(0, 0), 0, 1);
        e.parts("a mean, 39 and 1 by 3", x, x.mid(4), 118, 3);
        e.parts("a mean, whole", x, x.mid(0), 39, 1);
        e.parts("how many sets", x, x.sets(20), 2, 1);
        x.odds(0, 5);
        e.parts("no set", x, x.sets(1), 0, 1);
        e.says("Sets (of LINES, of MICE, of KINDS) are told by bits.");
        MiceRegisters y = Checks.with("rl901l001l001l001l001l001l001l901m01y71y71y71");
        e.due("MICE: 3 is 8, 1 is 2", Checks.line(y, 7, 5), 14);
        e.due("MICE: 0 is 1", Checks.line(y, 0, 5), 1);
        y.year();
        e.due("LINES: 0 is 1, 7 is 128", y.count(5), 129);
        Checks.fill(x, 0, 0);
        e.due("KINDS: 0 is 1, 5 is 32", x.kinds(0, 0), 63);
    }

    private static void sizes() {
        MiceRegisters x = new MiceRegisters();
        e.says("1 ROWS 0 .. 5 are rows of 0 to 40 ints, TEXTS 0 .. 3 rows of 0 to 60 bytes, or missing (at first).");
        for (int n = 0; n < 6; n++) {
            final int r = n;
            e.found("ROW " + r + " at first", x, () -> x.tear(r), 1);
            e.due("ROW " + r + " of 0", x.row(r, 0), 0);
            e.due("ROW " + r + " of 40", x.row(r, 40), 40);
            e.bad("ROW " + r + " of 41", x, () -> x.row(r, 41));
        }
        e.bad("ROW 6", x, () -> x.row(6, 0));
        e.bad("ROW -1", x, () -> x.row(-1, 0));
        for (int n = 0; n < 4; n++) {
            final int t = n;
            e.found("TEXT " + t + " at first", x, () -> x.fault(t), 1);
            e.due("TEXT " + t + " of 0", x.text(t, 0), 0);
            e.due("TEXT " + t + " of 60", x.text(t, 60), 60);
            e.bad("TEXT " + t + " of 61", x, () -> x.text(t, 61));
        }
        e.bad("TEXT 4", x, () -> x.text(4, 0));
        e.bad("TEXT -1", x, () -> x.text(-1, 0));
    }

    private static void kinds() {
        e.says("KINDS of MICE and letters: 0 MOUSE (m, 109), 1 YOUNG (y, 121; a MOUSE), 2 OLD (o, 111; a MOUSE), "
                + "3 HUNGRY (h, 104; a MOUSE), 4 WHITE (w, 119; an OLD), 5 GREEDY (g, 103; a HUNGRY).");
        int[] letters = {109, 121, 111, 104, 119, 103};
        int[][] is = {{}, {1}, {2}, {3}, {2, 4}, {3, 5}};
        for (int kind = 0; kind < 6; kind++) {
            MiceRegisters x = Checks.with("rl540" + (char) letters[kind] + "05");
            e.due("KIND of " + letters[kind], Checks.mouse(x, 0, 0), kind);
            for (int other = 1; other < 6; other++) {
                boolean isSo = java.util.Arrays.stream(is[kind]).boxed().toList().contains(other);
                e.due("KIND " + kind + " is " + other, x.mark(0, other) == -3 ? 0 : 1, isSo ? 1 : 0);
            }
        }
    }

    private static void likes() {
        MiceRegisters x = Checks.with("rl101m01y01o01h01");
        MiceRegisters y = Checks.with("rl101w01g01");
        e.says("A MOUSE LIKES a LINE by how much it is WRONG and its CHEESE, together, less how many LINES lie between "
                + "there and where it is (their distance);");
        e.told("a MOUSE, 2 and 3, less 4", x, x.likes(0, 2, 3, 4), 1, 1);
        e.told("a MOUSE, 2 and 3, less 5", x, x.likes(0, 2, 3, 5), 1, 0);
        e.told("a MOUSE, 2 and 3, less 6", x, x.likes(0, 2, 3, 6), 1, -1);
        e.told("a HUNGRY one, 2 and 3, less 6", x, x.likes(3, 2, 3, 6), 1, -1);
        wants("rl140l040l040l040l040l040l040l840m01", 0);
        wants("rl140l040l040l040l040l040l040l940m01", 7);
        wants("rl840l040l040l040l040l040l040l140m71", 7);
        wants("rl940l040l040l040l040l040l040l140m71", 0);
        wants("rl240l240l440m11", 2);
        wants("rl240l240l340m11", 1);
        e.says("a YOUNG one the distance not taken;");
        e.told("2 and 3", x, x.likes(1, 2, 3, 0), 1, 5);
        e.told("2 and 3, 7 away", x, x.likes(1, 2, 3, 7), 1, 5);
        wants("rl140l040l040l040l040l040l040l240y01", 7);
        wants("rl240l040l040l040l040l040l040l240y71", 7);
        e.says("an OLD one as a MOUSE, but one that is WRONG by 3 or less by its CHEESE alone, less the distance;");
        for (int w = 0; w <= 9; w++) {
            e.told("WRONG by " + w, x, x.likes(2, w, 2, 1), 1, w <= 3 ? 1 : w + 1);
            e.told("WRONG by " + w + ", a WHITE one", y, y.likes(0, w, 2, 1), 1, w <= 3 ? 1 : w + 1);
        }
        wants("rl340o01", NONE);
        wants("rl440o01", 0);
        wants("rl340w01", NONE);
        wants("rl440w01", 0);
        e.says("a GREEDY one as a MOUSE with the CHEESE twice.");
        e.told("2 and 3 twice, less 7", y, y.likes(1, 2, 3, 7), 1, 1);
        e.told("2 and none, less 7", y, y.likes(1, 2, 0, 7), 1, -5);
        e.told("20 twice", y, y.likes(1, 0, 20, 0), 1, 40);
    }

    private static void wants(String text, int line) {
        e.due("MOUSE 0 of " + text + " wants", Checks.mouse(Checks.with(text), 0, 4), line);
    }

    private static void eats() {
        e.says("It EATS as many LETTERS in a YEAR as its TEETH are, a HUNGRY one twice as many, "
                + "a WHITE one half of that of a MOUSE (cut), and 1.");
        int[] white = {1, 2, 2, 3, 3, 4, 4, 5, 5};
        for (int teeth = 1; teeth <= 9; teeth++) {
            int[] dues = {teeth, teeth, teeth, 2 * teeth, white[teeth - 1], 2 * teeth};
            for (int kind = 0; kind < 6; kind++) {
                MiceRegisters x = Checks.with("rl940" + "myohwg".charAt(kind) + "0" + teeth);
                e.due("KIND " + kind + ", TEETH " + teeth, Checks.mouse(x, 0, 3), dues[kind]);
                e.due("KIND " + kind + ", TEETH " + teeth + ", in a YEAR", x.year(), dues[kind]);
            }
        }
    }

    private static void yearAtFirst() {
        MiceRegisters x = Checks.with("rl540l540m01");
        e.says("2 YEAR 0 is next at first; no CHEESE, no CAT, no WAX.");
        e.due("YEAR", x.count(2), 0);
        e.due("CHEESE", x.count(8), 0);
        e.due("CAT", x.count(7), NONE);
        e.due("WAX", x.count(6), 0);
        x.year();
        e.due("YEAR, then", x.count(2), 1);
    }

    private static void goes(String what, MiceRegisters x, int eaten, int... where) {
        e.due(what, x.year(), eaten);
        for (int i = 0; i < where.length; i++) {
            e.due(what + ", where MOUSE " + i + " is", Checks.mouse(x, i, 1), where[i]);
        }
    }

    private static void whichLine() {
        e.says("each goes to the LINE that it LIKES most, of those that have LETTERS left, are not WAXED, "
                + "at which there is no CAT,");
        goes("most", Checks.with("rl540l740m03"), 3, 1);
        MiceRegisters left = Checks.with("rl501l740l540m13");
        goes("most, at hand", left, 3, 1);
        MiceRegisters gone = Checks.with("rl540l901m13");
        goes("1 is left", gone, 1, 1);
        goes("none is left", gone, 3, 0);
        MiceRegisters waxed = Checks.with("rl540l940m13");
        waxed.wax(1);
        goes("WAXED", waxed, 3, 0);
        waxed.wax(1);
        goes("WAXED no more", waxed, 3, 1);
        MiceRegisters cat = Checks.with("rl540l940m13");
        cat.cat(1);
        goes("the CAT", cat, 3, 0);
        cat.cat(NONE);
        goes("the CAT is away", cat, 3, 1);
        cat.cat(0);
        goes("the CAT is elsewhere", cat, 3, 1);
    }

    private static void likedByMoreThanNothing() {
        e.says("and which it LIKES by more than 0 (of like ones the nearest, of like ones of these the first),");
        goes("by 0", Checks.with("rl040l140m03"), 0, 0);
        goes("by 1", Checks.with("rl040l240m03"), 3, 1);
        goes("by less than 0", Checks.with("rl040l040l140m03"), 0, 0);
        goes("like ones, 0 and 1 away", Checks.with("rl340l240m13"), 3, 1);
        goes("like ones, 1 and 2 away", Checks.with("rl440l040l040l340m23"), 3, 3);
        goes("like ones, 1 away on both sides", Checks.with("rl340l040l340m13"), 3, 0);
        goes("a YOUNG one, 1 and 2 away", Checks.with("rl340l040l040l340y23"), 3, 3);
        goes("a YOUNG one, 2 away on both sides", Checks.with("rl340l040l040l040l340y23"), 3, 0);
        e.says("and EATS there (what there is left at most);");
        goes("2 of 2", Checks.with("rl902m02"), 2, 0);
        goes("2 of 3", Checks.with("rl903m02"), 2, 0);
        goes("1 of 1", Checks.with("rl901m02"), 1, 0);
        e.says("if there is none, it stays, and eats nothing.");
        MiceRegisters none = Checks.with("rl540l340m13");
        none.cat(0);
        none.wax(1);
        goes("none, it stays at 1", none, 0, 1);
        MiceRegisters eaten = Checks.with("rl501l501m01m11");
        goes("all is eaten up", eaten, 2, 0, 1);
        goes("they stay", eaten, 0, 0, 1);
    }

    private static void oneBehindTheOther() {
        e.says("A YEAR: MICE 0, 1, .. one behind the other:");
        goes("the second one finds it eaten up", Checks.with("rl903l540m03m05"), 8, 0, 1);
        goes("the second one finds 1", Checks.with("rl904l540m03m05"), 4, 0, 0);
        goes("four, one each", Checks.with("rl901l901l901l901m01m01m01m01"), 4, 0, 1, 2, 3);
        goes("the fourth finds none", Checks.with("rl901l901l901m01m01m01m01"), 3, 0, 1, 2, 0);
    }

    private static void cheeseGetsLess() {
        e.says("Then each CHEESE is 1 less (0 at least).");
        MiceRegisters x = Checks.with("rl040l040l040m03");
        x.cheese(0, 1);
        x.cheese(1, 2);
        x.year();
        e.due("1", Checks.line(x, 0, 3), 0);
        e.due("2", Checks.line(x, 1, 3), 1);
        e.due("0", Checks.line(x, 2, 3), 0);
        x.year();
        e.due("1, twice", Checks.line(x, 0, 3), 0);
        e.due("2, twice", Checks.line(x, 1, 3), 0);
        MiceRegisters y = Checks.with("rl040l040m03m03");
        y.cheese(0, 1);
        // it is less only behind all MICE
        goes("both eat by 1", y, 6, 0, 0);
        goes("none eats by 0", y, 0, 0, 0);
    }

    private static void deeds() {
        e.says("What is done: a YEAR, CHEESE laid (20 at most on a LINE), the CAT set at a LINE, or taken away, "
                + "a LINE WAXED, or no more. These are DEEDS 0, 1, .. (40 at most).");
        MiceRegisters x = Checks.with("rl040l040m03");
        x.year();
        e.due("a YEAR", x.count(3), 1);
        x.cheese(1, 9);
        e.due("CHEESE", x.count(3), 2);
        x.cat(1);
        e.due("the CAT", x.count(3), 3);
        x.cat(NONE);
        e.due("no CAT", x.count(3), 4);
        x.wax(1);
        e.due("WAX", x.count(3), 5);
        x.wax(1);
        e.due("no WAX", x.count(3), 6);
        x.cheese(1, 9);
        e.due("18 and 2", x.cheese(1, 2), 20);
        e.state("20 and 1", x, () -> x.cheese(1, 1));
        for (int d = 8; d < 40; d++) {
            e.due("DEED " + d, x.wax(0), 1 - d % 2);
        }
        e.full("a 41st", x, () -> x.wax(0));
        e.due("40", x.count(3), 40);
    }

    /** By 48271 from seed 1 on: the third number is the first one of the second one as a seed. */
    private static void lots() {
        e.says("3 LOTS: a number comes from the one ahead by 48271 times it modulo 2147483647, "
                + "the first from a seed (1 .. 2147483646).");
        int[] numbers = {1, 48271, 182605794, 1291394886, 1914720637, 2078669041};
        for (int n = 0; n < 4; n++) {
            MiceRegisters x = Checks.with("rl540l540l540l540l540l540l540l540m01");
            MiceRegisters y = Checks.with("rl540l540l540l540l540l540l540l540m01");
            x.lots(2, numbers[n]);
            y.lots(1, numbers[n]);
            y.lots(1, numbers[n + 1]);
            e.due("from " + numbers[n], x.digest(), y.digest());
            e.due("two DEEDS", x.count(3), 2);
        }
        MiceRegisters x = Checks.with("rl540l540m01");
        e.due("by the greatest seed: 2147435376, a YEAR", x.lots(1, 2147483646), 79);
        e.bad("one more", x, () -> x.lots(1, 2147483647));
        e.due("by the least seed: 48271, CHEESE 5 on LINE 1", x.lots(1, 1), 79);
        e.due("CHEESE", Checks.line(x, 1, 3), 5);
        e.bad("one less", x, () -> x.lots(1, 0));
    }

    private static void aside() {
        MiceRegisters x = Checks.with("rl502l104m03");
        e.says("(aside).");
        e.still("left()", x, () -> x.left(0, 40), 0);
        e.still("eaten()", x, () -> x.eaten(40), 1);
        e.still("when()", x, () -> x.when(0), 1);
        long before = x.digest();
        x.likes(0, 9, 20, 7);
        e.due("likes()", x.digest(), before);
        e.says("(aside, now).");
        e.due("save()", x.save(0, 1), 6);
        e.due("save() leaves all as it is", x.digest(), before);
        e.due("guard()", x.guard(20), 0);
        e.due("guard() leaves all as it is", x.digest(), before);
    }

    private static void rowsOfLines() {
        MiceRegisters x = Checks.with("rl001l001m01");
        e.says("(a ROW of 1 to 10 ints: at which LINE a MOUSE was behind 1, 2, .. YEARS from now on: "
                + "NOTHING; SIZE; UNLIKE: no such LINE; behind BAD).");
        for (int size = 0; size <= 12; size++) {
            x.row(0, size);
            if (size >= 1 && size <= 10) {
                e.due("of " + size, x.places(0, 0), 1);
                e.due("of " + size + ", KINDS", x.kinds(0, 0), 63);
                e.told("of " + size + ", look", x, x.look(0, 0), 1, 6);
            } else {
                e.found("of " + size, x, () -> x.places(0, 0), 5);
                e.found("of " + size + ", KINDS", x, () -> x.kinds(0, 0), 5);
                e.found("of " + size + ", look", x, () -> x.look(0, 0), 5);
            }
        }
        MiceRegisters y = Checks.with("rl503l540m02");
        // behind 1, 2 YEARS it is at LINE 0, behind the third at LINE 1: where it is now is not in the ROW
        Checks.fill(y, 0, 0, 0, 1);
        e.due("as it goes", y.places(0, 0), 1);
        Checks.fill(y, 0, 0, 0, 0);
        e.due("with where it is now ahead", y.places(0, 0), 0);
    }

    private static void sleep() {
        e.says("(each MOUSE sleeps next YEAR, stays and eats nothing, by p (0 .. 12) of 12, each by itself).");
        MiceRegisters x = Checks.with("rl140l540m03m03");
        for (int p = 0; p <= 12; p++) {
            // both go to LINE 1, unless they sleep: 3 each
            int left = 80 * 12 - 6 * (12 - p);
            int shared = java.math.BigInteger.valueOf(left).gcd(java.math.BigInteger.valueOf(12)).intValue();
            e.parts("p " + p, x, x.mid(p), left / shared, 12 / shared);
        }
        e.parts("both by themselves", x, x.odds(1, 3), 1, 16);
        e.bad("p -1", x, () -> x.odds(0, -1));
        e.bad("p 13", x, () -> x.odds(0, 13));
        e.bad("p -1, mid", x, () -> x.mid(-1));
        e.bad("p 13, mid", x, () -> x.mid(13));
        MiceRegisters y = Checks.with("rl903l103m03m03");
        // LINE 0 is as now if both sleep; LINE 1 always: one away, the second one LIKES it by 0
        e.parts("stays where it is", y, y.odds(1, 5), 1, 1);
        MiceRegisters z = Checks.with("rl903l203m03m03");
        e.parts("goes on if the first one is awake", z, z.odds(1, 3), 7, 16);
    }
}
