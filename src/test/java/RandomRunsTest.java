import java.util.Random;

/** Long runs of calls, right and wrong ones, on the class and on Plain: every answer is the same. */
public final class RandomRunsTest {
    private static final Checks c = new Checks("RandomRunsTest");
    private static final int RUNS = 700;
    private static final int CALLS = 300;
    private static final int[] ODD = {-1, 0, 1, 2, 5, 8, 9, 13, 20, 21, 40, 41, 60, 61, -9, Integer.MIN_VALUE, Integer.MAX_VALUE};

    private final Random random;
    private final String run;
    private final MiceRegisters x = new MiceRegisters();
    private final Plain y = new Plain();

    private RandomRunsTest(int seed) {
        random = new Random(seed);
        run = "run " + seed;
    }

    public static void main(String[] args) {
        int runs = args.length > 0 ? Integer.parseInt(args[0]) : RUNS;
        for (int seed = 1; seed <= runs; seed++) {
            new RandomRunsTest(seed).go();
        }
        c.end();
    }

    private void go() {
        if (random.nextInt(8) > 0) {
            write(0, text());
            due("register(0)", x.register(0), y.register(0));
        }
        for (int n = 0; n < CALLS; n++) {
            call(random.nextInt(44));
            due("asked() behind call " + n, x.asked(), y.asked());
            if (n % 5 == 0) {
                due("digest() behind call " + n, x.digest(), y.digest());
            }
        }
        due("upper()", x.upper(), y.upper());
        due("lower()", x.lower(), y.lower());
    }

    private void due(String call, long got, long want) {
        c.due(run + ": " + call, got, want);
    }

    private int in(int least, int most) {
        if (random.nextInt(24) == 0) {
            return ODD[random.nextInt(ODD.length)];
        }
        return least + random.nextInt(most - least + 1);
    }

    private String blanks() {
        return " ".repeat(random.nextInt(6) == 0 ? random.nextInt(3) : 0);
    }

    private String text() {
        StringBuilder text = new StringBuilder(blanks() + "r");
        int lines = 1 + random.nextInt(8);
        int mice = 1 + random.nextInt(4);
        int few = random.nextBoolean() ? 12 : 40;
        for (int l = 0; l < lines; l++) {
            int letters = 1 + random.nextInt(few);
            text.append(blanks()).append('l').append(random.nextInt(10)).append(letters / 10).append(letters % 10);
        }
        for (int i = 0; i < mice; i++) {
            text.append(blanks()).append("myohwg".charAt(random.nextInt(6)));
            text.append(random.nextInt(lines)).append(1 + random.nextInt(9));
        }
        text.append(blanks());
        return text.length() > 60 ? text.substring(0, 60) : text.toString();
    }

    private void write(int t, String text) {
        due("text", x.text(t, text.length()), y.text(t, text.length()));
        for (int i = 0; i < text.length(); i++) {
            due("put", x.put(t, i, text.charAt(i)), y.put(t, i, text.charAt(i)));
        }
    }

    private void spoil(int t) {
        String signs = "rlmyohwg0123456789 x";
        int i = random.nextInt(60);
        int v = signs.charAt(random.nextInt(signs.length()));
        due("put(" + t + ", " + i + ", " + v + ")", x.put(t, i, v), y.put(t, i, v));
        due("fault(" + t + ")", x.fault(t), y.fault(t));
    }

    /** A ROW as it would be if a mouse were of some kind, or somewhere: else hardly any would fit. */
    private void layTrace(int r, int i) {
        int size = 1 + random.nextInt(random.nextBoolean() ? 2 : 10);
        Plain.State now = y.stateNow();
        x.row(r, size);
        y.row(r, size);
        if (i < now.mice.size()) {
            if (random.nextBoolean()) {
                now.mice.get(i).at = random.nextInt(now.lines.size());
            } else {
                now.mice.get(i).letter = "myohwg".charAt(random.nextInt(6));
            }
            for (int k = 0; k < size; k++) {
                now.pass(0);
                int v = now.mice.get(i).at;
                due("lay", x.lay(r, k, v), y.lay(r, k, v));
            }
        }
    }

    private void call(int which) {
        if (which < 13) {
            callOnRows(which);
        } else if (which < 22) {
            callDeeds(which);
        } else if (which < 33) {
            callAside(which);
        } else {
            callMore(which);
        }
        due("finding()", x.finding(), y.finding());
    }

    private void callOnRows(int which) {
        int r = in(0, 5), i = in(0, 9), to = in(0, 5), j = in(0, 9), n = in(0, 9), t = in(0, 3), v = random.nextInt();
        switch (which) {
            case 0 -> due("row(" + r + ", " + n + ")", x.row(r, n), y.row(r, n));
            case 1, 2 -> due("lay(" + r + ", " + i + ", " + v + ")", x.lay(r, i, v), y.lay(r, i, v));
            case 3 -> due("at(" + r + ", " + i + ")", x.at(r, i), y.at(r, i));
            case 4 -> due("tear(" + r + ")", x.tear(r), y.tear(r));
            case 5, 6 -> due("copy(" + r + ", " + i + ", " + to + ", " + j + ", " + n + ")", x.copy(r, i, to, j, n), y.copy(r, i, to, j, n));
            case 7 -> due("mean(" + r + ")", x.mean(r), y.mean(r));
            case 8 -> due("text(" + t + ", " + n + ")", x.text(t, n), y.text(t, n));
            case 9 -> due("put(" + t + ", " + i + ", " + v + ")", x.put(t, i, v), y.put(t, i, v));
            case 10 -> write(random.nextInt(4), text());
            case 11 -> spoil(random.nextInt(4));
            default -> {
                if (random.nextInt(3) == 0) {
                    due("register(" + t + ")", x.register(t), y.register(t));
                }
            }
        }
    }

    private void callDeeds(int which) {
        int l = in(0, Math.max(0, x.count(0) - 1)), n = in(1, 9), d = in(0, 30), k = in(0, 2);
        switch (which) {
            case 13, 14 -> due("year()", x.year(), y.year());
            case 15 -> due("cheese(" + l + ", " + n + ")", x.cheese(l, n), y.cheese(l, n));
            case 16 -> due("cat(" + l + ")", x.cat(l), y.cat(l));
            case 17 -> due("cat(-9)", x.cat(-9), y.cat(-9));
            case 18 -> due("wax(" + l + ")", x.wax(l), y.wax(l));
            case 19 -> due("undo(" + d + ")", x.undo(d), y.undo(d));
            case 20 -> due("keep(" + k + ")", x.keep(k), y.keep(k));
            default -> due("on(" + k + ")", x.on(k), y.on(k));
        }
    }

    private void callAside(int which) {
        int l = in(0, Math.max(0, x.count(0) - 1)), i = in(0, Math.max(0, x.count(1) - 1));
        int w = in(0, 9), cheese = in(0, 20), far = in(0, 7), n = in(1, 20), r = in(0, 5);
        switch (which) {
            case 22 -> due("likes(" + i + ", " + w + ", " + cheese + ", " + far + ")", x.likes(i, w, cheese, far), y.likes(i, w, cheese, far));
            case 23 -> due("left(" + l + ", " + 2 * n + ")", x.left(l, 2 * n), y.left(l, 2 * n));
            case 24 -> due("eaten(" + n + ")", x.eaten(n), y.eaten(n));
            case 25 -> due("when(" + l + ")", x.when(l), y.when(l));
            case 26, 27 -> due("save(" + l + ", " + n + ")", x.save(l, n), y.save(l, n));
            case 28 -> due("guard(" + n + ")", x.guard(n), y.guard(n));
            case 29 -> due("line(" + l + ", " + w + ")", x.line(l, w % 6), y.line(l, w % 6));
            case 30 -> due("mouse(" + i + ", " + w + ")", x.mouse(i, w % 5), y.mouse(i, w % 5));
            case 31 -> due("mark(" + i + ", " + w + ")", x.mark(i, w % 7), y.mark(i, w % 7));
            default -> {
                layTrace(random.nextInt(6), random.nextInt(4));
                due("places(" + i + ", " + r + ")", x.places(i, r), y.places(i, r));
                due("kinds(" + i + ", " + r + ")", x.kinds(i, r), y.kinds(i, r));
                due("look(" + i + ", " + r + ")", x.look(i, r), y.look(i, r));
            }
        }
    }

    private void callMore(int which) {
        int lines = Math.max(0, x.count(0) - 1);
        int a = in(0, lines), b = in(0, lines), p = in(0, 12), n = in(1, 8), v = random.nextInt(60), i = random.nextInt(4);
        int seed = random.nextInt(9) == 0 ? random.nextInt() : 1 + random.nextInt(Integer.MAX_VALUE - 1);
        switch (which) {
            case 33 -> due("sets(" + v + ")", x.sets(v), y.sets(v));
            case 34 -> due("sure(" + v + ")", x.sure(v), y.sure(v));
            case 35 -> duel(a, b, random.nextInt(20) == 0 ? 2 : in(0, 1));
            case 36 -> due("odds(" + a + ", " + p + ")", x.odds(a, p), y.odds(a, p));
            case 37 -> due("mid(" + p + ")", x.mid(p), y.mid(p));
            case 38 -> due("lots(" + n + ", " + seed + ")", x.lots(n, seed), y.lots(n, seed));
            case 39 -> due("count(" + p + ")", x.count(p), y.count(p));
            case 40 -> due("findings(" + p % 7 + ")", x.findings(p % 7), y.findings(p % 7));
            case 41 -> due("upper()", x.upper(), y.upper());
            case 42 -> due("lower()", x.lower(), y.lower());
            default -> {
                int r = random.nextInt(6);
                layTrace(r, i);
                due("places(" + i + ", " + r + ") of one", x.places(i, r), y.places(i, r));
                due("kinds(" + i + ", " + r + ") of one", x.kinds(i, r), y.kinds(i, r));
                due("look(" + i + ", " + r + ") of one", x.look(i, r), y.look(i, r));
            }
        }
    }

    private void duel(int a, int b, int n) {
        due("duel(" + a + ", " + b + ", " + n + ")", x.duel(a, b, n), y.duel(a, b, n));
    }
}
