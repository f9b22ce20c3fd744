/** Promises 37 to 43: what is told. */
public final class ToldTest {
    private static final int NONE = MiceRegisters.NONE;
    private static final Checks c = new Checks("ToldTest");

    public static void main(String[] args) {
        asked();
        upperAndLower();
        count();
        findings();
        digestOfNew();
        digest();
        c.end();
    }

    private static void asked() {
        MiceRegisters x = Checks.with("rl540l340m02");
        c.due("37: 0 before", x.asked(), 0);
        x.likes(0, 9, 9, 0);
        c.due("37: told", x.asked(), 18);
        x.likes(0, 10, 0, 0);
        x.line(2, 0);
        x.mouse(1, 0);
        x.at(0, 0);
        x.mean(0);
        x.lay(0, 0, 0);
        x.duel(0, 0, 0);
        x.sure(1);
        x.guard(0);
        c.due("37: not by what is refused", x.asked(), 18);
        x.year();
        x.cheese(0, 1);
        x.cat(0);
        x.wax(0);
        x.keep(0);
        x.on(0);
        x.undo(0);
        x.left(0, 1);
        x.eaten(1);
        x.when(0);
        x.odds(0, 1);
        x.mid(1);
        x.lots(1, 1);
        x.count(0);
        x.digest();
        x.mark(0, 1);
        c.due("37: not by others", x.asked(), 18);
    }

    private static void upperAndLower() {
        MiceRegisters x = Checks.with("rl540m02");
        c.due("38: 0 before", x.upper(), 0);
        c.due("39: 1 before", x.lower(), 1);
        x.odds(0, 5);
        c.due("38: told", x.upper(), 5);
        c.due("39: told", x.lower(), 12);
        x.odds(0, 13);
        x.mid(13);
        x.sets(321);
        x.sure(40);
        c.due("38: not by what is refused", x.upper(), 5);
        c.due("39: not by what is refused", x.lower(), 12);
        x.sets(40);
        c.due("38: told by sets()", x.upper(), 1);
        c.due("39: told by sets()", x.lower(), 1);
        x.mid(5);
        c.due("38: told by mid()", x.upper(), 233);
        c.due("39: told by mid()", x.lower(), 6);
    }

    private static void count() {
        MiceRegisters x = Checks.with("rl503l340l140m03w02g01h03");
        c.due("40: count(-1)", x.count(-1), -1);
        c.due("40: count(14)", x.count(14), -1);
        x.year();
        x.cheese(1, 4);
        x.cheese(2, 5);
        x.cat(1);
        x.wax(2);
        x.row(0, 0);
        x.row(3, 1);
        x.text(3, 0);
        x.keep(1);
        // mouse 0 eats line 0 up; the white one likes none; 2 of line 1 for the greedy one, 6 for the hungry one
        int[] due = {3, 4, 1, 5, 72, 1, 4, 1, 9, 1, 2, 2, 2, 1};
        for (int what = 0; what < due.length; what++) {
            c.due("40: count(" + what + ")", x.count(what), due[what]);
        }
        MiceRegisters y = Checks.with("rl540o01w01y01m01");
        c.due("40: old ones", y.count(9), 2);
        c.due("40: hungry ones", y.count(10), 0);
    }

    private static void findings() {
        MiceRegisters x = new MiceRegisters();
        c.due("41: 0 before", x.finding(), 0);
        c.due("42: findings(0)", x.findings(0), -1);
        c.due("42: findings(6)", x.findings(6), -1);
        for (int f = 1; f <= 5; f++) {
            c.due("42: findings(" + f + ")", x.findings(f), 0);
        }
        x.at(0, 0);
        x.row(0, 0);
        x.at(0, 0);
        x.at(0, 0);
        x.mean(0);
        x.row(0, -1);
        x.at(1, 0);
        x.at(6, 0);
        c.due("41: the latest", x.finding(), 1);
        int[] due = {2, 2, 0, 1, 1};
        for (int f = 1; f <= 5; f++) {
            c.due("42: findings(" + f + ") then", x.findings(f), due[f - 1]);
        }
        Checks.write(x, 0, "rl540m01");
        x.register(0);
        c.due("41: stays with a new register", x.finding(), 1);
    }

    private static void digestOfNew() {
        long h = 17;
        int[] values = {0, 0, 0, 0, 0, 0, 0, NONE, 0, 0, 0, 0, 0, 0, -1, -1, -1, -1, -1, -1, -1, -1, -1, -1, -1, -1, -1};
        for (int v : values) {
            h = 31 * h + v;
        }
        c.due("43: of a new one", new MiceRegisters().digest(), h);
    }

    private static void digest() {
        MiceRegisters x = Checks.with("rl540l320m12");
        x.cheese(1, 5);
        x.year();
        x.wax(0);
        x.keep(2);
        Checks.fill(x, 1, 7, -8);
        x.row(4, 0);
        x.text(3, 2);
        x.put(3, 0, 200);
        long h = 17;
        int[] values = {
            2, 1, 1, 3, 58, 0, 1, NONE, 4, 0, 0, 2, 2, 1,
            5, 40, 40, 0, 1, 0,
            3, 20, 18, 4, 0, 1,
            0, 1, 2, 2, 1,
            -1, -1, 3,
            -1, 2, 7, -8, -1, -1, 0, -1,
            12, 114, 108, 53, 52, 48, 108, 51, 50, 48, 109, 49, 50, -1, -1, 2, 200 - 256, 32};
        for (int v : values) {
            h = 31 * h + v;
        }
        int asked = x.asked();
        c.due("43: of each part", x.digest(), h);
        c.due("43: asked() is not told", x.asked(), asked);
    }
}
