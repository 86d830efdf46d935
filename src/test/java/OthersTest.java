/** Promises 21 to 27: WAIT, FOOT, FELL, LOOSE BY FELL, MORNING. */
public final class OthersTest {
    public static void main(String[] args) {
        waits();
        waitsOfLikeOnes();
        waitsInZigzag();
        waitsSunAside();
        waitsRefused();
        foot();
        footInZigzag();
        footRefused();
        fell();
        looseByFell();
        looseOfLikeOnes();
        looseAside();
        read();
        readTillFull();
        morningWithoutChance();
        morningBySeed();
        Check.end();
    }

    /**
     * OTHERS come into PART 2 in minute 2, ahead minutes sooner, each by ODDS of 4. Not ahead, HARM
     * by one is 4 for a wait of 0, 12 for 1, 8 for 2, 0 for 3.
     */
    private static void waits() {
        StonesAbove x = Check.with("..l4", "11.;11.");
        dueWait(x, 1, 0, 64, 0, 1, 1);
        dueWait(x, 1, 0, 1, 0, 1, 64);
        dueWait(x, 1, 0, 999, 3, 3, 1);
        dueWait(x, 6, 0, 999, 3, 3, 1);
        dueWait(x, 3, 0, 60, 0, 45, 16);
        dueWait(x, 1, 0, 0, 0, 0, 1);
        dueWait(x, 1, 1, 999, 2, 2, 1);
        dueWait(x, 1, 3, 999, 0, 0, 1);
        dueWait(x, 6, 99, 999, 0, 0, 1);
        x.set(3, 500);
        dueWait(x, 1, 0, 64, 0, 1, 1);
        x.set(2, 1);
        dueWait(x, 1, 1, 16, 0, 1, 2);
        dueWait(new StonesAbove(), 1, 0, 999, 0, 0, 1);
    }

    private static void waitsOfLikeOnes() {
        StonesAbove x = Check.with("..l4", "11.;11.");
        dueWait(x, 1, 0, 192, 0, 3, 1);
        dueWait(x, 1, 0, 193, 3, 3, 1);
        dueWait(x, 3, 0, 64, 0, 3, 1);
        dueWait(x, 1, 2, 32, 0, 1, 1);
        dueWait(x, 1, 2, 33, 1, 1, 1);
        // HARM is 40, 32, 8, 0: 640 256ths for a wait of 0 and of 2, and some are hit in both.
        Check.retype(x, 0, "l1l8.l6l2");
        dueWait(x, 1, 2, 16, 0, 5, 2);
    }

    /** WALKERS need two minutes for a PART, OTHERS one; those of odd numbers are not hit. */
    private static void waitsInZigzag() {
        StonesAbove x = Check.with("..l4", "11.;11.;11.");
        x.set(1, 1);
        dueWait(x, 1, 0, 1, 0, 3, 64);
        x.set(0, 2);
        dueWait(x, 1, 0, 1, 0, 1, 64);
        Check.retype(x, 1, "11h;11.");
        dueWait(x, 1, 0, 1, 0, 0, 1);
    }

    private static void waitsSunAside() {
        StonesAbove x = Check.with("..l4", "11.;11.");
        x.set(4, 0);
        x.set(5, 16);
        dueWait(x, 1, 0, 64, 0, 1, 1);
    }

    private static void waitsRefused() {
        StonesAbove x = Check.with("..l4", "11.;11.");
        int[][] bad = {{0, 0, 0, 0}, {7, 0, 0, 0}, {-1, 0, 0, 0}, {1, -1, 0, 0}, {1, 100, 0, 0}, {1, 0, -1, 0}, {1, 0, 1000, 0}, {1, 0, 0, 3}, {1, 0, 0, -1}};
        for (int[] b : bad) {
            Check.due("waits" + java.util.Arrays.toString(b), x.waits(b[0], b[1], b[2], b[3]), Check.BAD_LONG);
        }
    }

    private static void foot() {
        StonesAbove x = Check.with("..l4", "90.;11.");
        Check.dueFraction("a foot", x.foot(2, 2, 0), x.foot(2, 2, 1), 1, 1);
        Check.due("nobody yet", x.foot(2, 1, 0), Check.NOT_LONG);
        Check.due("not loose", x.foot(0, 0, 0), Check.NOT_LONG);
        x.set(4, 2);
        x.set(5, 3);
        Check.dueFraction("a foot or the sun", x.foot(2, 2, 0), x.foot(2, 2, 1), 7, 10);
        Check.dueFraction("the second one's", x.foot(2, 3, 0), x.foot(2, 3, 1), 4, 7);
        Check.dueFraction("the sun", x.foot(2, 4, 0), x.foot(2, 4, 1), 0, 1);
        Check.dueFraction("the sun, long after", x.foot(2, 1999, 0), x.foot(2, 1999, 1), 0, 1);
        Check.due("before the sun", x.foot(2, 1, 0), Check.NOT_LONG);
        Check.due("the sun, not loose", x.foot(1, 4, 0), Check.NOT_LONG);
        x.set(0, 0);
        Check.dueFraction("two feet", x.foot(2, 2, 0), x.foot(2, 2, 1), 11, 14);
        x.set(5, 0);
        Check.due("no strength in the sun", x.foot(2, 4, 0), Check.NOT_LONG);
        Check.retype(x, 1, "19.");
        Check.retype(x, 0, "l3");
        Check.due("no chance of a foot", x.foot(0, 0, 0), Check.NOT_LONG);
    }

    private static void footInZigzag() {
        StonesAbove x = Check.with("..l4", "90.;11.");
        x.set(1, 1);
        Check.dueFraction("comes in", x.foot(2, 4, 0), x.foot(2, 4, 1), 1, 1);
        x.set(4, 0);
        x.set(0, 2);
        Check.dueFraction("is in already", x.foot(2, 5, 0), x.foot(2, 5, 1), 0, 1);
        Check.dueFraction("the second one comes in", x.foot(2, 6, 0), x.foot(2, 6, 1), 4, 5);
    }

    private static void footRefused() {
        StonesAbove x = Check.with("..l4", "90.");
        int[][] bad = {{3, 0, 0}, {-1, 0, 0}, {2, -1, 0}, {2, 2000, 0}, {2, 2, 2}, {2, 2, -1}, {0, 0, 2}};
        for (int[] b : bad) {
            Check.due("foot" + java.util.Arrays.toString(b), x.foot(b[0], b[1], b[2]), Check.BAD_LONG);
        }
    }

    private static void fell() {
        StonesAbove x = new StonesAbove();
        for (int i = 1; i <= 8; i++) {
            Check.due("fell, " + i, x.fell(5, 15, i % 2), i);
        }
        Check.due("fell, full", x.fell(0, 0, 0), -4);
        int[][] bad = {{6, 0, 0}, {-1, 0, 0}, {0, 16, 0}, {0, -1, 0}, {0, 0, 2}, {0, 0, -1}};
        for (int[] b : bad) {
            Check.due("fell" + java.util.Arrays.toString(b), x.fell(b[0], b[1], b[2]), -2);
        }
        Check.due("count(4)", x.count(4), 8);
        Check.due("forget", x.forget(), 8);
        Check.due("forget again", x.forget(), 0);
        Check.due("count(4)", x.count(4), 0);
        Check.due("fell after forget", x.fell(0, 0, 0), 1);
    }

    /** ODDS of 10. are just how LOOSE it is. */
    private static void looseByFell() {
        StonesAbove x = Check.with("l1.", "10.");
        int[][] told = {{1, 9}, {0, 8}, {0, 5}, {0, 4}};
        for (int[] t : told) {
            x.fell(0, 0, t[0]);
            Check.due("loose(0) after " + x.count(4), x.loose(0), t[1]);
        }
        Check.due("loose of another PART", x.loose(1), 1);
        x.forget();
        Check.due("loose after forget", x.loose(0), 1);
        x.fell(0, 1, 1);
        Check.due("loose of a firm PART", x.loose(1), 9);
        Check.due("loose(2)", x.loose(2), -2);
        Check.due("loose(-1)", x.loose(-1), -2);
        Check.due("loose without a gully", new StonesAbove().loose(0), -2);
    }

    private static void looseOfLikeOnes() {
        StonesAbove x = Check.with(".", "19.;90.");
        x.fell(0, 0, 0);
        Check.due("1 to 3 are alike", x.loose(0), 1);
        x.fell(0, 0, 1);
        Check.due("4 at least", x.loose(0), 9);
        for (int i = 0; i < 6; i++) {
            x.fell(0, 0, 0);
        }
        Check.due("one of eight", x.loose(0), 5);
        x.forget();
        x.fell(1, 0, 0);
        Check.due("none by a heavy one", x.loose(0), 1);
    }

    private static void looseAside() {
        StonesAbove x = Check.with(".", "10.");
        x.fell(1, 0, 1);
        Check.due("a walker that is not there", x.loose(0), 1);
        Check.type(x, 1, ";10.");
        Check.due("now it is", x.loose(0), 9);
        x.type(1, ';');
        Check.due("a faulty text has no walkers", x.loose(0), 1);
    }

    private static void read() {
        StonesAbove x = Check.with("...", "10.;10.");
        Check.due("read, lost", x.read(2), -11);
        Check.due("read(4)", x.read(4), -2);
        Check.due("read(-1)", x.read(-1), -2);
        x.sheet(2, 0, 8);
        int[] items = {1, 2, 1, 5, 15, 0, 0, 0};
        for (int i = 0; i < items.length; i++) {
            x.lay(2, 0, i, items[i]);
        }
        Check.due("read: two are whole", x.read(2), 2);
        Check.due("count(4)", x.count(4), 2);
        Check.due("loose(2) by what was read", x.loose(2), 9);
        Check.due("loose(1), of which nothing was", x.loose(1), 1);
        int[][] worse = {{3, 6}, {4, 16}, {5, 2}, {3, -1}, {4, -1}, {5, -1}};
        for (int[] w : worse) {
            x.forget();
            x.lay(2, 0, w[0], w[1]);
            Check.due("read, item " + w[0] + " is " + w[1], x.read(2), 1);
            Check.due("count(4)", x.count(4), 1);
            x.lay(2, 0, w[0], items[w[0]]);
        }
        x.sheet(3, 2, 2);
        Check.due("none is whole", x.read(3), 0);
    }

    private static void readTillFull() {
        StonesAbove x = new StonesAbove();
        x.sheet(0, 2, 60);
        x.fell(0, 0, 0);
        Check.due("read till full", x.read(0), 7);
        Check.due("read, full", x.read(0), 0);
        Check.due("count(4)", x.count(4), 8);
    }

    /** A stone from PART 8 by 16 sixteenths, which hits in PART 0 by 16, and in shelters not at all. */
    private static void morningWithoutChance() {
        StonesAbove x = Check.with("nsssssssl1", "19.;19.;19.");
        x.set(4, 0);
        x.set(5, 16);
        x.set(0, 3);
        for (int seed = -5; seed < 5; seed++) {
            Check.due("each is hit once", x.morning(seed), 3);
        }
        x.set(4, 1);
        Check.due("the first is past", x.morning(1), 2);
        x.set(4, 0);
        x.set(1, 1);
        Check.due("two minutes each", x.morning(1), 6);
        x.set(4, 4);
        Check.due("one minute of the second, two of the third", x.morning(1), 3);
        x.set(3, 4);
        Check.due("later", x.morning(1), 6);
        x.set(5, 0);
        Check.due("no strength in the sun, no feet", x.morning(1), 0);
        x.wipe(1);
        Check.due("no walkers", x.morning(1), 0);
    }

    /** As Plain plays them. */
    private static void morningBySeed() {
        StonesAbove x = Check.with("n..l9.nl9l9.l5", "90.;90.;72.;80h;90.;91.");
        Plain y = new Plain();
        for (int what = 0; what < 2; what++) {
            String text = what == 0 ? "n..l9.nl9l9.l5" : "90.;90.;72.;80h;90.;91.";
            for (int i = 0; i < text.length(); i++) {
                y.type(what, text.charAt(i));
            }
        }
        int sum = 0;
        for (int seed = -50; seed < 50; seed++) {
            Check.due("morning(" + seed + ")", x.morning(seed), y.morning(seed));
            sum += x.morning(seed);
        }
        Check.due("some are hit", sum > 100 ? 1 : 0, 1);
        Check.due("a morning again", x.morning(3), x.morning(3));
    }

    private static void dueWait(StonesAbove x, int n, int ahead, int cost, int wait, long above, long below) {
        String call = "waits(" + n + ", " + ahead + ", " + cost + ")";
        Check.due(call, x.waits(n, ahead, cost, 0), wait);
        Check.dueFraction(call, x.waits(n, ahead, cost, 1), x.waits(n, ahead, cost, 2), above, below);
    }
}
