/** Promise 35: digest(), folded here from the public answers, in the order that the document tells. */
public final class DigestTest {
    private static long h;

    public static void main(String[] args) {
        dueDigest("new", new StonesAbove());
        StonesAbove x = Check.with(".l4ns.l9.l2", "90.;55h;19.");
        dueDigest("three", x);
        x.set(4, 3);
        x.set(5, 7);
        x.fell(0, 1, 1);
        dueDigest("sunned", x);
        x.set(1, 1);
        dueDigest("zigzag", x);
        x.type(1, ';');
        dueDigest("a faulty text", x);
        dueDigest("one PART: no PART 2, no PART 1", Check.with("l9", "90."));
        dueDigest("no WALKERS: no helmets(1)", Check.with("l9l9l9", ""));
        dueDigest("no PARTS", Check.with("", "90.;11."));
        eachCounts();
        Check.end();
    }

    /** What is not in it leaves it; what is in it does not. */
    private static void eachCounts() {
        StonesAbove x = Check.with("..l4", "90.;11h;11.");
        long before = x.digest();
        x.sheet(0, 0, 9);
        Check.due("sheets aside", x.digest(), before);
        x.fell(5, 15, 1);
        Check.due("how many FELL", x.digest() == before ? 0 : 1, 1);
        x.forget();
        Check.due("forgotten", x.digest(), before);
        x.set(0, 2);
        Check.due("GAP", x.digest() == before ? 0 : 1, 1);
    }

    private static void dueDigest(String told, StonesAbove x) {
        h = 17;
        for (int what = 0; what <= 7; what++) {
            fold(x.count(what));
        }
        fold(x.fault(0), x.fault(1));
        for (int p = 0; p < x.count(0); p++) {
            fold(x.part(p, 0), x.part(p, 1), x.hits(p, 0, 0), x.hits(p, 0, 1), x.loose(p));
        }
        for (int w = 0; w < x.count(1); w++) {
            fold(x.walker(w, 0), x.walker(w, 1), x.walker(w, 2), x.place(w, 5), x.treads(w, 2));
            fold(x.harm(0, w, 0), x.harm(0, w, 1), x.harm(-1, w, 0), x.harm(-1, w, 1), x.all(w, 0), x.all(w, 1));
        }
        fold(x.all(-1, 0), x.all(-1, 1), x.ends(), x.latest(), x.curve(0, 0), x.curve(0, 1), x.gap(20));
        fold(x.order(0), x.order(1), x.ordered(0), x.ordered(1));
        fold(x.helmets(1, 0), x.helmets(1, 1), x.helmets(1, 2));
        fold(x.waits(3, 2, 90, 0), x.waits(3, 2, 90, 1), x.waits(3, 2, 90, 2));
        fold(x.foot(1, 1, 0), x.foot(1, 1, 1), x.morning(7));
        Check.due("digest(), " + told, x.digest(), h);
    }

    private static void fold(long... each) {
        for (long v : each) {
            h = 31 * h + v;
        }
    }
}
