import java.util.Random;

/**
 * All promises: runs of calls by a fixed seed, on the class and on Plain, which must answer alike.
 * The calls lean towards what is well, with some that are not, and some far outside.
 */
public final class PlainTest {
    private static final int RUNS = 400;
    private static final String[] GULLIES = {
        "", "l9", ".l4ns.l9.l2", "l1l2l3l4l5l6l7l8l9l9l9l9l9l9l9l9", "n..l3s.n.l9l9..n", "nl9nl9nl9nl9nl9nl9nl9nl9",
        "sl5sl5", "n.............l5", "..............l9.", "................"};

    private final Random random;
    private final int run;
    private final StonesAbove x = new StonesAbove();
    private final Plain y = new Plain();

    private PlainTest(int run) {
        this.run = run;
        this.random = new Random(run);
    }

    public static void main(String[] args) {
        for (int run = 0; run < RUNS; run++) {
            new PlainTest(run).go();
        }
        Check.end();
    }

    private void go() {
        typeGully();
        typeWalkers();
        for (int i = 0; i < 6; i++) {
            if (random.nextBoolean()) {
                set(i);
            }
        }
        for (int i = 0; i < 150; i++) {
            call(random.nextInt(60));
        }
        due("digest()", x.digest(), y.digest());
    }

    private void due(String call, long got, long want) {
        Check.due("run " + run + ": " + call, got, want);
    }

    /** A number mostly within 0 to most, else one beside, else any. */
    private int number(int most) {
        int kind = random.nextInt(40);
        if (kind == 0) {
            int[] far = {Integer.MIN_VALUE, Integer.MAX_VALUE, -1000, 100000, -2};
            return far[random.nextInt(far.length)];
        }
        if (kind == 1) {
            return random.nextBoolean() ? -1 : most + 1;
        }
        return random.nextInt(most + 1);
    }

    private void type(int text, int b) {
        due("type(" + text + ", " + b + ")", x.type(text, b), y.type(text, b));
    }

    private void typeGully() {
        String fixed = GULLIES[random.nextInt(GULLIES.length)];
        if (random.nextInt(3) > 0) {
            StringBuilder made = new StringBuilder();
            int parts = random.nextInt(18);
            for (int p = 0; p < parts; p++) {
                char c = ".snlll".charAt(random.nextInt(6));
                made.append(c);
                if (c == 'l') {
                    made.append((char) ('1' + random.nextInt(9)));
                }
            }
            fixed = made.toString();
        }
        typeAll(0, fixed);
    }

    private void typeWalkers() {
        StringBuilder made = new StringBuilder();
        // Six in every row would make the plain search for ORDER slow.
        int walkers = random.nextInt(8) == 0 ? 6 : random.nextInt(6);
        for (int w = 0; w < walkers; w++) {
            made.append(w > 0 ? ";" : "");
            made.append((char) ('1' + random.nextInt(9)));
            made.append((char) ('0' + random.nextInt(10)));
            made.append(random.nextBoolean() ? 'h' : '.');
        }
        typeAll(1, made.toString());
    }

    private void typeAll(int text, String bytes) {
        due("wipe(" + text + ")", x.wipe(text), y.wipe(text));
        for (int i = 0; i < bytes.length(); i++) {
            type(text, bytes.charAt(i));
        }
        due("fault(" + text + ")", x.fault(text), y.fault(text));
    }

    private void set(int what) {
        int[] most = {99, 1, 16, 999, 1999, 16};
        int[] mostly = {6, 1, 16, 30, 60, 16};
        boolean near = random.nextInt(4) > 0;
        int v = what >= 0 && what < 6 ? number(near ? mostly[what] : most[what]) : random.nextInt();
        due("set(" + what + ", " + v + ")", x.set(what, v), y.set(what, v));
    }

    private int minute() {
        int last = x.ends() + 2;
        return random.nextInt(5) == 0 ? number(1999) : Math.max(0, last - random.nextInt(40));
    }

    private void call(int kind) {
        int w = number(5);
        int v = random.nextInt(4) == 0 ? -1 : number(5);
        int p = number(15);
        int q = number(15);
        int what = number(1);
        int three = number(2);
        int m = minute();
        switch (kind) {
            case 0: bytes(); break;
            case 1: due("undo", x.undo(what), y.undo(what)); break;
            case 2: due("fault", x.fault(what), y.fault(what)); break;
            case 3: due("part(" + p + ")", x.part(p, what), y.part(p, what)); break;
            case 4: due("walker(" + w + ")", x.walker(w, three), y.walker(w, three)); break;
            case 5: case 6: case 7: case 8: set(number(5)); break;
            case 9: typeGully(); break;
            case 10: typeWalkers(); break;
            case 11: case 12: due("place(" + w + ", " + m + ")", x.place(w, m), y.place(w, m)); break;
            case 13: due("treads(" + w + ", " + p + ")", x.treads(w, p), y.treads(w, p)); break;
            case 14: case 15: due("hits(" + p + ", " + q + ")", x.hits(p, q, what), y.hits(p, q, what)); break;
            case 16: case 17: case 18: due("harm(" + v + ", " + w + ", " + what + ")", x.harm(v, w, what), y.harm(v, w, what)); break;
            case 19: case 20: due("all(" + v + ", " + what + ")", x.all(v, what), y.all(v, what)); break;
            case 21: due("ends", x.ends(), y.ends()); break;
            case 22: due("latest", x.latest(), y.latest()); break;
            default: more(kind, w, p, what, three, m); break;
        }
    }

    private void more(int kind, int w, int p, int what, int three, int m) {
        int g = number(random.nextBoolean() ? 9 : 99);
        int six = number(6);
        switch (kind) {
            case 23: due("curve(" + g + ", " + what + ")", x.curve(g, what), y.curve(g, what)); break;
            case 24: due("gap(" + g + ")", x.gap(g), y.gap(g)); break;
            case 25: searchOrder(); break;
            case 26: case 27: due("helmets(" + six + ", " + three + ")", x.helmets(six, three), y.helmets(six, three)); break;
            case 28: case 29: waits(six, three); break;
            case 30: case 31: due("foot(" + p + ", " + m + ", " + what + ")", x.foot(p, m, what), y.foot(p, m, what)); break;
            case 32: case 33: case 34: due("fell(" + w + ", " + p + ", " + what + ")", x.fell(w, p, what), y.fell(w, p, what)); break;
            case 35: due("forget", x.forget(), y.forget()); break;
            case 36: due("loose(" + p + ")", x.loose(p), y.loose(p)); break;
            case 37: fellOfOnePart(); break;
            case 38: case 39: case 40: morning(); break;
            default: sheets(kind, what, m); break;
        }
    }

    /** Some bytes, most of them such as texts have. */
    private void bytes() {
        String some = ".snl0123456789h;x";
        int text = number(1);
        for (int i = random.nextInt(5); i >= 0; i--) {
            type(text, random.nextInt(9) == 0 ? number(255) : some.charAt(random.nextInt(some.length())));
        }
    }

    private void searchOrder() {
        if (y.count(1) == 6 && random.nextInt(6) > 0) {
            return;
        }
        int i = number(5);
        due("order(" + i + ")", x.order(i), y.order(i));
        int what = number(1);
        due("ordered(" + what + ")", x.ordered(what), y.ordered(what));
    }

    private void waits(int n, int what) {
        int ahead = number(random.nextBoolean() ? 9 : 99);
        int cost = number(random.nextBoolean() ? 60 : 999);
        due("waits(" + n + ", " + ahead + ", " + cost + ", " + what + ")", x.waits(n, ahead, cost, what), y.waits(n, ahead, cost, what));
    }

    private void fellOfOnePart() {
        int p = random.nextInt(3);
        for (int i = 0; i < 4; i++) {
            int w = number(5);
            int is = random.nextInt(2);
            due("fell(" + w + ", " + p + ", " + is + ")", x.fell(w, p, is), y.fell(w, p, is));
        }
        due("loose(" + p + ")", x.loose(p), y.loose(p));
    }

    private void morning() {
        int seed = random.nextInt();
        due("morning(" + seed + ")", x.morning(seed), y.morning(seed));
    }

    private void sheets(int kind, int what, int m) {
        int s = number(3);
        int t = number(3);
        int form = number(2);
        int i = number(random.nextBoolean() ? 5 : 60);
        int j = number(random.nextBoolean() ? 5 : 60);
        int n = number(random.nextBoolean() ? 12 : 60);
        int v = random.nextInt(3) == 0 ? random.nextInt() : random.nextInt(7) - 1;
        switch (kind) {
            case 41: case 42: case 43: case 44: due("sheet(" + s + ", " + form + ", " + n + ")", x.sheet(s, form, n), y.sheet(s, form, n)); break;
            case 45: due("lose(" + s + ")", x.lose(s), y.lose(s)); break;
            case 46: case 47: case 48: case 49: due("lay(" + s + ", " + form + ", " + i + ", " + v + ")", x.lay(s, form, i, v), y.lay(s, form, i, v)); break;
            case 50: case 51: case 52: due("get(" + s + ", " + form + ", " + i + ")", x.get(s, form, i), y.get(s, form, i)); break;
            case 53: case 54: due("copy(" + s + ", " + i + ", " + t + ", " + j + ", " + n + ")", x.copy(s, i, t, j, n), y.copy(s, i, t, j, n)); break;
            case 55: due("write(" + m + ", " + s + ")", x.write(m, s), y.write(m, s)); break;
            case 56: due("read(" + s + ")", x.read(s), y.read(s)); break;
            default: int c = number(8); due("count(" + c + ")", x.count(c), y.count(c)); break;
        }
        sameSheets();
    }

    private void sameSheets() {
        due("count(8)", x.count(8), y.count(8));
        for (int s = 0; s < 4; s++) {
            for (int i = 0; i < 61; i += 7) {
                due("get(" + s + ", " + (s + i) % 3 + ", " + i + ")", x.get(s, (s + i) % 3, i), y.get(s, (s + i) % 3, i));
            }
        }
    }
}
