/** The boundary cases of promises 34 and 35: the least and the most of each count; digests of numbers written out by hand. */
public final class DigestEdgesTest {
    private static final long BAD = Check.BAD_LONG;
    private static final long NOT = Check.NOT_LONG;

    public static void main(String[] args) {
        countsOfTheMost();
        countsOfFaultyTexts();
        countsOfFindings();
        digestOfANewObject();
        digestOfOneWalkerAndOnePart();
        digestOfTwo();
        digestWithoutWalkers();
        digestOfFaultyTexts();
        digestLeavesAllAsItIs();
        fiveHundredAndTwelveCalls();
        Check.end();
    }

    private static void dueCounts(String told, StonesAbove x, int... counts) {
        for (int what = 0; what < counts.length; what++) {
            Check.due("34 " + told + ": count(" + what + ")", x.count(what), counts[what]);
        }
        Check.due("34 " + told + ": count(9)", x.count(9), -2);
        Check.due("34 " + told + ": count(-1)", x.count(-1), -2);
    }

    private static void countsOfTheMost() {
        StonesAbove x = Check.with("l9l9l9l9l9l9l9l9l9l9l9l9l9l9l9l9", "99h;99h;99h;99h;99h;99h");
        for (int i = 0; i < 8; i++) {
            x.fell(0, 0, 0);
        }
        x.set(0, 99);
        dueCounts("the most", x, 16, 6, 32, 23, 8, 144, 99, 6, 0);
        x.set(0, 0);
        x.forget();
        x.wipe(0);
        x.wipe(1);
        dueCounts("the least", x, 0, 0, 0, 0, 0, 0, 0, 0, 0);
    }

    private static void countsOfFaultyTexts() {
        StonesAbove x = Check.with("l9l9l", "99h;99h;9");
        dueCounts("faulty", x, 0, 0, 5, 9, 0, 0, 1, 0, 0);
    }

    /** "the number of the latest FINDING (0 before any)". */
    private static void countsOfFindings() {
        StonesAbove x = new StonesAbove();
        Check.due("34 before any", x.count(8), 0);
        x.sheet(0, 0, 1);
        x.sheet(1, 1, 1);
        Edges.Asked[] calls = {y -> y.lose(2), y -> y.lay(0, 0, 1, 0), y -> y.lay(0, 1, 0, 0), y -> y.copy(0, 0, 1, 0, 1), y -> y.sheet(2, 0, -1)};
        for (int number = 1; number <= 5; number++) {
            Check.due("34 FINDING " + number, calls[number - 1].on(x), -10 - number);
            Check.due("34 count(8)", x.count(8), number);
        }
    }

    private static void dueDigest(String told, StonesAbove x, long... each) {
        long h = 17;
        for (long v : each) {
            h = 31 * h + v;
        }
        Check.due("35 " + told, x.digest(), h);
    }

    private static void digestOfANewObject() {
        dueDigest("new", new StonesAbove(),
            0, 0, 0, 0, 0, 0, 1, 0, // counts
            -1, -1, // FAULTS
            0, 1, // all(NONE)
            0, 999, // ends, latest
            0, 1, 0, // curve(0), gap(20)
            -1, -1, 0, 1, // order, ordered
            BAD, BAD, BAD, // helmets(1): there is none to wear it
            0, 0, 1, // waits
            BAD, BAD, 0); // foot: there is no PART 1; morning
    }

    /** "treads(it, 2), harm(0, it), foot(1, 1) (as it is told)": refusals are folded in as they are. */
    private static void digestOfOneWalkerAndOnePart() {
        dueDigest("one", Check.with("l9", "90h"),
            1, 1, 2, 3, 0, 9, 1, 1,
            -1, -1,
            3, 9, 0, 0, 1, // PART 0: kind, how LOOSE, hits, loose
            9, 0, 1, -1, -2, // WALKER 0: nowhere in minute 5; there is no PART 2
            BAD, BAD, 0, 1, 0, 1, // harm by itself, by the SUN, all
            0, 1, 1, 999, 0, 1, 0,
            0, -1, 0, 1, // only one in order
            1, 0, 1, // helmets(1)
            0, 0, 1, BAD, BAD, 0);
    }

    /**
     * WALKER 0 (ODDS 9) comes into PART 2 in minute 2, when WALKER 1 (ODDS 6) is in PART 1: by 1. OTHERS
     * began 2 minutes ahead: in PART 2 in minute 0, when WALKER 0 is in PART 0, by 2: 3 times 6 times 2
     * of 256, at 90: 12 and more; by a wait of 1 nobody is in yet.
     */
    private static void digestOfTwo() {
        dueDigest("two", Check.with(".nl6", "90.;10."),
            3, 2, 4, 7, 0, 6, 1, 0,
            -1, -1,
            0, 0, 0, 0, 1,
            2, 0, 1, 0, 1,
            3, 6, 2, 1, 1,
            9, 0, 0, -1, 9, BAD, BAD, 0, 1, 0, 1,
            1, 0, 0, -1, 6, 9, 128, 0, 1, 9, 128, // narrow: twice
            9, 128, 4, 999, 0, 1, 0,
            1, 0, 3, 64, // the lighter one first: 6 times 2
            2, 9, 256, // a helmet for WALKER 1
            1, 1, 1,
            NOT, NOT, 0);
    }

    private static void digestWithoutWalkers() {
        dueDigest("no WALKERS", Check.with("..", ""),
            2, 0, 2, 0, 0, 0, 1, 0,
            -1, -1,
            0, 0, 0, 0, 1,
            0, 0, 1, 0, 1,
            0, 1, 0, 999, 0, 1, 0,
            -1, -1, 0, 1,
            BAD, BAD, BAD,
            0, 0, 1,
            NOT, NOT, 0);
    }

    /** As without PARTS and WALKERS, but for the bytes and the FAULTS. */
    private static void digestOfFaultyTexts() {
        dueDigest("faulty texts", Check.with("l9.x", "90.;9"),
            0, 0, 4, 5, 0, 0, 1, 0,
            3, 5,
            0, 1, 0, 999, 0, 1, 0,
            -1, -1, 0, 1,
            BAD, BAD, BAD,
            0, 0, 1,
            BAD, BAD, 0);
    }

    private static void digestLeavesAllAsItIs() {
        StonesAbove x = Check.with(".l4ns.l9.l2", "90.;55h;19.");
        StonesAbove y = Check.with(".l4ns.l9.l2", "90.;55h;19.");
        long first = x.digest();
        Check.due("35 again", x.digest(), first);
        Check.due("35 no FINDING", x.count(8), 0);
        Edges.dueAlike("35 digest", x, y);
    }

    /** "at most 512 calls": the last of them answers like the first. */
    private static void fiveHundredAndTwelveCalls() {
        StonesAbove x = new StonesAbove();
        for (int i = 1; i <= 511; i++) {
            Check.due("call " + i, x.type(0, '.'), i <= 32 ? i : -4);
        }
        Check.due("call 512", x.wipe(0), 32);
    }
}
