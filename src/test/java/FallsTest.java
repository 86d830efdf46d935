/** Promises 9 to 15: who is where, what falls, HARM, ENDS, LATEST. */
public final class FallsTest {
    public static void main(String[] args) {
        places();
        placesInZigzag();
        odds();
        hits();
        hitsByLag();
        hitsRefused();
        harmByWalkers();
        harmInZigzag();
        harmBySun();
        harmRefused();
        harmByAll();
        ends();
        latest();
        Check.end();
    }

    private static void places() {
        StonesAbove x = Check.with("...", "11.;11.;11.");
        x.set(0, 4);
        x.set(3, 10);
        int[][] told = {{0, 9, -1}, {0, 10, 0}, {0, 12, 2}, {0, 13, -1}, {1, 13, -1}, {1, 14, 0}, {2, 18, 0}, {2, 20, 2}, {2, 21, -1}};
        for (int[] t : told) {
            Check.due("place(" + t[0] + ", " + t[1] + ")", x.place(t[0], t[1]), t[2]);
        }
        Check.due("place, minute 0", x.place(0, 0), -1);
        Check.due("place, minute 1999", x.place(0, 1999), -1);
        Check.due("place, minute 2000", x.place(0, 2000), -2);
        Check.due("place, minute -1", x.place(0, -1), -2);
        Check.due("place, no such walker", x.place(3, 0), -2);
        Check.due("place, NONE", x.place(-1, 0), -2);
        x.wipe(0);
        Check.due("place without PARTS", x.place(0, 10), -1);
    }

    private static void placesInZigzag() {
        StonesAbove x = Check.with("...", "11.;11.");
        x.set(1, 1);
        int[] first = {0, 0, 1, 1, 2, 2, -1};
        int[] second = {-1, 0, 0, 1, 1, 2, 2, -1};
        for (int m = 0; m < first.length; m++) {
            Check.due("zigzag, place(0, " + m + ")", x.place(0, m), first[m]);
        }
        for (int m = 0; m < second.length; m++) {
            Check.due("zigzag, place(1, " + m + ")", x.place(1, m), second[m]);
        }
    }

    private static void odds() {
        StonesAbove x = Check.with("l1l5l9.sn", "10.;90.;19.;38.;62.;99h");
        int[] more = {0, 3, -3, -1, 2, 0};
        int[] loose = {1, 5, 9};
        for (int w = 0; w < 6; w++) {
            for (int p = 0; p < 3; p++) {
                Check.due("treads(" + w + ", " + p + ")", x.treads(w, p), Math.max(0, loose[p] + more[w]));
            }
            for (int p = 3; p < 6; p++) {
                Check.due("treads where it is not loose", x.treads(w, p), 0);
            }
        }
        Check.due("treads(6, 0)", x.treads(6, 0), -2);
        Check.due("treads(-1, 0)", x.treads(-1, 0), -2);
        Check.due("treads(0, 6)", x.treads(0, 6), -2);
        Check.due("treads(0, -1)", x.treads(0, -1), -2);
    }

    private static void hits() {
        StonesAbove x = Check.with("n.sl1..........n.", "");
        Check.due("twice in a narrow one, 16 at most", x.hits(9, 0, 0), 16);
        Check.due("as far as it can fall", x.hits(15, 0, 0), 16);
        Check.due("narrow, not yet 16", x.hits(7, 0, 0), 14);
        Check.due("with a helmet", x.hits(15, 0, 1), 8);
        Check.due("from a firm one", x.hits(15, 1, 0), 14);
        Check.due("cut by a helmet", x.hits(4, 1, 1), 1);
        Check.due("by one PART", x.hits(4, 3, 0), 1);
        Check.due("by one PART, with a helmet", x.hits(4, 3, 1), 0);
        Check.due("a shelter", x.hits(15, 2, 0), 0);
        Check.due("the same PART", x.hits(4, 4, 0), 0);
        Check.due("above", x.hits(4, 5, 0), 0);
        Check.due("narrow by one", x.hits(15, 14, 0), 2);
        x.set(1, 1);
        Check.due("zigzag aside", x.hits(15, 1, 0), 14);
    }

    private static void hitsByLag() {
        StonesAbove x = Check.with("n.......", "");
        x.set(2, 4);
        Check.due("by as many as LAG", x.hits(4, 0, 0), 8);
        Check.due("by one more than LAG", x.hits(5, 0, 0), 5);
        Check.due("by more, with a helmet", x.hits(5, 0, 1), 2);
        Check.due("LAG is of PARTS, not of sixteenths", x.hits(4, 0, 1), 4);
        Check.due("cut by a shout", x.hits(6, 1, 0), 2);
        Check.due("cut twice", x.hits(6, 1, 1), 1);
        x.set(2, 0);
        Check.due("LAG 0", x.hits(2, 1, 0), 0);
        Check.due("LAG 0, by two", x.hits(3, 1, 0), 1);
    }

    private static void hitsRefused() {
        StonesAbove x = Check.with("...", "");
        Check.due("hits(3, 0, 0)", x.hits(3, 0, 0), -2);
        Check.due("hits(-1, 0, 0)", x.hits(-1, 0, 0), -2);
        Check.due("hits(2, 3, 0)", x.hits(2, 3, 0), -2);
        Check.due("hits(2, -1, 0)", x.hits(2, -1, 0), -2);
        Check.due("hits(2, 0, 2)", x.hits(2, 0, 2), -2);
        Check.due("hits(2, 0, -1)", x.hits(2, 0, -1), -2);
    }

    /** WALKER 0 comes into PART 2 (ODDS 4 and 3) in minute 2, when WALKER 1 is in 1, WALKER 2 in 0. */
    private static void harmByWalkers() {
        StonesAbove x = Check.with("..l4", "90.;11h;11.");
        dueHarm(x, 0, 1, 0);
        dueHarm(x, 0, 2, 14);
        dueHarm(x, 1, 2, 4);
        dueHarm(x, 1, 0, 0);
        dueHarm(x, 2, 0, 0);
        x.set(3, 700);
        dueHarm(x, 0, 2, 14);
        x.set(0, 2);
        dueHarm(x, 0, 1, 7);
        dueHarm(x, 0, 2, 0);
        x.set(0, 0);
        dueHarm(x, 0, 1, 0);
        Check.retype(x, 0, "n.l4");
        x.set(0, 2);
        dueHarm(x, 0, 1, 14);
        Check.retype(x, 0, "s.l4");
        dueHarm(x, 0, 1, 0);
    }

    private static void harmInZigzag() {
        StonesAbove x = Check.with("..l4", "90.;11.;11.");
        x.set(1, 1);
        dueHarm(x, 0, 1, 0);
        dueHarm(x, 0, 2, 7);
        x.set(0, 2);
        dueHarm(x, 0, 1, 0);
        dueHarm(x, 0, 2, 14);
        x.set(1, 0);
        dueHarm(x, 0, 1, 14);
    }

    private static void harmBySun() {
        StonesAbove x = Check.with("..l4l1", "90.;11h");
        x.set(4, 1);
        x.set(5, 3);
        // Minute 1 in PART 1: 1 and 2; minute 2 in PART 2: 1. The second: PART 0 in minute 1: 1 and 1, then 0 and 1, 0.
        dueHarm(x, -1, 0, 12);
        dueHarm(x, -1, 1, 9);
        x.set(4, 0);
        dueHarm(x, -1, 0, 27);
        x.set(1, 1);
        dueHarm(x, -1, 0, 54);
        x.set(4, 1);
        dueHarm(x, -1, 0, 39);
        dueHarm(x, -1, 1, 18);
        x.set(5, 0);
        dueHarm(x, -1, 0, 0);
        x.set(5, 16);
        x.set(4, 8);
        dueHarm(x, -1, 0, 0);
    }

    private static void harmRefused() {
        StonesAbove x = Check.with("..l4", "90.;11h");
        int[][] bad = {{0, 0, 0}, {1, 1, 0}, {2, 0, 0}, {-2, 0, 0}, {0, 2, 0}, {0, -1, 0}, {-1, -1, 0}, {0, 1, 2}, {0, 1, -1}, {-1, 2, 0}};
        for (int[] b : bad) {
            Check.due("harm(" + b[0] + ", " + b[1] + ", " + b[2] + ")", x.harm(b[0], b[1], b[2]), Check.BAD_LONG);
        }
    }

    private static void harmByAll() {
        StonesAbove x = Check.with("..l4", "90.;11h;11.");
        Check.dueFraction("all(0)", x.all(0, 0), x.all(0, 1), 0, 1);
        Check.dueFraction("all(2)", x.all(2, 0), x.all(2, 1), 9, 128);
        Check.dueFraction("all(NONE)", x.all(-1, 0), x.all(-1, 1), 9, 128);
        x.set(4, 2);
        // The SUN's stone from PART 2 in minutes 2 on: WALKER 2 in PART 0, then 1; WALKER 1, in a helmet, is not hit by one.
        Check.dueFraction("all(2), sunned", x.all(2, 0), x.all(2, 1), 21, 256);
        Check.dueFraction("all(NONE), sunned", x.all(-1, 0), x.all(-1, 1), 21, 256);
        Check.due("all(3)", x.all(3, 0), Check.BAD_LONG);
        Check.due("all(-2)", x.all(-2, 0), Check.BAD_LONG);
        Check.due("all, what", x.all(0, 2), Check.BAD_LONG);
        Check.due("all(NONE), what", x.all(-1, -1), Check.BAD_LONG);
        x.wipe(1);
        Check.dueFraction("all(NONE) of none", x.all(-1, 0), x.all(-1, 1), 0, 1);
    }

    private static void ends() {
        StonesAbove x = Check.with("....", "11.;11.;11.");
        Check.due("ends()", x.ends(), 6);
        x.set(0, 0);
        Check.due("ends(), GAP 0", x.ends(), 4);
        x.set(0, 99);
        x.set(3, 999);
        Check.due("ends(), GAP 99", x.ends(), 1201);
        x.set(1, 1);
        Check.due("ends(), ZIGZAG", x.ends(), 1205);
        x.wipe(1);
        Check.due("ends() without WALKERS", x.ends(), 999);
        Check.type(x, 1, "11.;11.");
        x.wipe(0);
        Check.due("ends() without PARTS", x.ends(), 999);
    }

    private static void latest() {
        StonesAbove x = Check.with("....", "11.;11.;11.");
        int[][] told = {{6, 0}, {5, -1}, {7, 1}, {1005, 999}, {1004, 998}, {1999, 999}, {0, -1}};
        for (int[] t : told) {
            x.set(4, t[0]);
            Check.due("latest() for SUN " + t[0], x.latest(), t[1]);
        }
        x.set(4, 20);
        x.set(3, 500);
        Check.due("latest() whatever BEGIN is", x.latest(), 14);
        x.set(1, 1);
        Check.due("latest(), ZIGZAG", x.latest(), 10);
        x.wipe(1);
        Check.due("latest() without WALKERS", x.latest(), 20);
    }

    private static void dueHarm(StonesAbove x, int by, int to, long above256) {
        Check.dueOf256("harm(" + by + ", " + to + ")", x.harm(by, to, 0), x.harm(by, to, 1), above256);
    }
}
