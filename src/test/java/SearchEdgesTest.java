/** The boundary cases of promises 16 to 21: none, one and six WALKERS, the least of like ones, the longest WAIT. */
public final class SearchEdgesTest {
    private static final String[] WALKERS = {"90.", "19h", "55.", "30h", "62.", "81h"};

    public static void main(String[] args) {
        curveIsAllWithThatGap();
        curveOfNoneAndOne();
        bestGapOfLikeOnes();
        orderEndsWithTheWalkers();
        orderIsTheLeastRow();
        orderAmongAllRows();
        helmetsAreNoMoreThanWalkers();
        helmetsAreTheLeastBits();
        helmetsAmongAllBits();
        helmetsWhoeverHasOneNow();
        waitTillOthersAreOut();
        waitOfEachNumberOfOthers();
        waitByCost();
        waitOfLikeOnes();
        waitOfLikeOnesStillHit();
        waitForEvenNumbers();
        waitOfNone();
        Check.end();
    }

    private static String row(int... walkers) {
        StringBuilder text = new StringBuilder();
        for (int w : walkers) {
            text.append(text.length() == 0 ? "" : ";").append(WALKERS[w]);
        }
        return text.toString();
    }

    private static String first(int n) {
        return row(java.util.stream.IntStream.range(0, n).toArray());
    }

    /** "HARM of all together, if GAP was g, the rest as it is". */
    private static void curveIsAllWithThatGap() {
        for (int zigzag = 0; zigzag < 2; zigzag++) {
            for (int g : new int[] {0, 1, 2, 6, 7, 31, 32, 98, 99}) {
                StonesAbove x = Check.with("n.l4s.l9l1", first(6));
                x.set(1, zigzag);
                x.set(4, 9);
                x.set(0, 50);
                long above = x.curve(g, 0);
                long below = x.curve(g, 1);
                Check.due("16 GAP is as it was", x.set(0, g), 50);
                Check.dueFraction("16 curve(" + g + ")", above, below, x.all(-1, 0), x.all(-1, 1));
            }
        }
    }

    private static void curveOfNoneAndOne() {
        StonesAbove none = Check.with("n.l4", "");
        StonesAbove one = Check.with("n.l4", "90.");
        one.set(4, 0);
        for (int g : new int[] {0, 1, 99}) {
            Check.dueFraction("16 none, curve(" + g + ")", none.curve(g, 0), none.curve(g, 1), 0, 1);
            Check.dueOf256("16 one, curve(" + g + ")", one.curve(g, 0), one.curve(g, 1), 4 + 1);
        }
    }

    /** "the least, of like ones the least". */
    private static void bestGapOfLikeOnes() {
        StonesAbove alike = Check.with("...", "90.;90.");
        StonesAbove farToo = Check.with("n.l4", "90.;90.");
        for (int most : new int[] {0, 1, 3, 98, 99}) {
            Check.due("17 all alike, gap(" + most + ")", alike.gap(most), 0);
            Check.due("17 as good as 3 on, gap(" + most + ")", farToo.gap(most), 0);
            Check.due("17 none, gap(" + most + ")", new StonesAbove().gap(most), 0);
        }
        Check.dueOf256("16 curve(2)", farToo.curve(2, 0), farToo.curve(2, 1), 7 * 4);
    }

    /** "the i-th WALKER (0 to 5; NONE)". */
    private static void orderEndsWithTheWalkers() {
        for (int n = 0; n <= 6; n++) {
            StonesAbove x = Check.with("...", first(n));
            for (int i = 0; i < 6; i++) {
                Check.due("18 of " + n + ", order(" + i + ")", x.order(i), i < n ? i : -1);
            }
            Check.due("18 of " + n + ", order(6)", x.order(6), -2);
            Check.due("18 of " + n + ", order(-1)", x.order(-1), -2);
            Check.dueFraction("19 of " + n, x.ordered(0), x.ordered(1), 0, 1);
        }
    }

    /** "of like ones the least row": WALKERS that are alike keep their order. */
    private static void orderIsTheLeastRow() {
        dueOrder("90.;90.;19.;19.;90.;19.", 2, 3, 5, 0, 1, 4);
        dueOrder("19.;90.;19.;90.;19.;90.", 0, 2, 4, 1, 3, 5);
        dueOrder("90.;90.;90.;90.;90.;90.", 0, 1, 2, 3, 4, 5);
        dueOrder("90.;19.", 1, 0);
        dueOrder("19.;90.", 0, 1);
        dueOrder("90.", 0);
    }

    private static void dueOrder(String walkers, int... row) {
        StonesAbove x = Check.with("....l4", walkers);
        for (int i = 0; i < row.length; i++) {
            Check.due("18 " + walkers + ": order(" + i + ")", x.order(i), row[i]);
        }
    }

    /** All 720 rows, each typed as a text: none has less HARM than ORDER's, and none that has as much is less. */
    private static void orderAmongAllRows() {
        for (int gap : new int[] {0, 1, 2, 5, 99}) {
            dueAmongAllRows(gap, 0);
            dueAmongAllRows(gap, 1);
        }
    }

    private static void dueAmongAllRows(int gap, int zigzag) {
        int[] best = null;
        long least = Long.MAX_VALUE;
        for (int r = 0; r < 720; r++) {
            int[] row = rowOf(r);
            long harm = of256(walking("nl4.l9sl2.l7", row(row), gap, zigzag));
            if (harm < least) {
                least = harm;
                best = row;
            }
        }
        StonesAbove x = walking("nl4.l9sl2.l7", first(6), gap, zigzag);
        for (int i = 0; i < 6; i++) {
            Check.due("18 GAP " + gap + ", ZIGZAG " + zigzag + ", order(" + i + ")", x.order(i), best[i]);
        }
        Check.dueOf256("19 GAP " + gap + ", ZIGZAG " + zigzag, x.ordered(0), x.ordered(1), least);
    }

    private static StonesAbove walking(String gully, String walkers, int gap, int zigzag) {
        StonesAbove x = Check.with(gully, walkers);
        x.set(0, gap);
        x.set(1, zigzag);
        x.set(4, 8);
        x.set(5, 3);
        return x;
    }

    private static long of256(StonesAbove x) {
        return x.all(-1, 0) * 256 / x.all(-1, 1);
    }

    /** The r-th row of 0 to 5, from the least on. */
    private static int[] rowOf(int r) {
        java.util.List<Integer> left = new java.util.ArrayList<>(java.util.List.of(0, 1, 2, 3, 4, 5));
        int[] row = new int[6];
        int rest = r;
        int rows = 720;
        for (int i = 0; i < 6; i++) {
            rows /= 6 - i;
            row[i] = left.remove(rest / rows);
            rest %= rows;
        }
        return row;
    }

    /** "k (0 to 6, no more than WALKERS)". */
    private static void helmetsAreNoMoreThanWalkers() {
        for (int n = 0; n <= 6; n++) {
            StonesAbove x = Check.with("n.l4", first(n));
            Check.due("20 none of " + n, x.helmets(0, 0), 0);
            Check.due("20 all of " + n, x.helmets(n, 0), (1 << n) - 1);
            for (int k : new int[] {n + 1, 7, Edges.MOST, -1, Edges.LEAST}) {
                for (int what = 0; what < 3; what++) {
                    Check.due("20 " + k + " of " + n, x.helmets(k, what), Check.BAD_LONG);
                }
            }
        }
    }

    /** "of like ones the least bits". */
    private static void helmetsAreTheLeastBits() {
        StonesAbove x = Check.with("...", first(6));
        for (int k = 0; k <= 6; k++) {
            Check.due("20 " + k + " where none is hit", x.helmets(k, 0), (1 << k) - 1);
        }
        // WALKER 0 is never hit, all others alike: by one PART, by which a helmet leaves none.
        StonesAbove y = Check.with(".l4", "10.;10.;10.;10.");
        int[] bits = {0, 2, 6, 14, 15};
        for (int k = 0; k <= 4; k++) {
            Check.due("20 " + k + " where all but the first are", y.helmets(k, 0), bits[k]);
        }
    }

    /** All 64, each typed as a text. */
    private static void helmetsAmongAllBits() {
        String[] gullies = {"nl4.l9sl2.l7", "l9l9l9l9l9l9l9l9l9l9l9l9l9l9l9l9", ".l5"};
        for (String gully : gullies) {
            StonesAbove x = walking(gully, withHelmets(0), 2, 0);
            for (int k = 0; k <= 6; k++) {
                int best = -1;
                long least = Long.MAX_VALUE;
                for (int bits = 0; bits < 64; bits++) {
                    long harm = Integer.bitCount(bits) == k ? of256(walking(gully, withHelmets(bits), 2, 0)) : Long.MAX_VALUE;
                    if (harm < least) {
                        least = harm;
                        best = bits;
                    }
                }
                Check.due("20 helmets(" + k + ", 0)", x.helmets(k, 0), best);
                Check.dueOf256("20 helmets(" + k + ")", x.helmets(k, 1), x.helmets(k, 2), least);
            }
        }
    }

    private static String withHelmets(int bits) {
        StringBuilder text = new StringBuilder();
        for (int w = 0; w < 6; w++) {
            text.append(w == 0 ? "" : ";").append(WALKERS[w], 0, 2).append((bits >> w & 1) == 1 ? 'h' : '.');
        }
        return text.toString();
    }

    private static void helmetsWhoeverHasOneNow() {
        long bits = walking("nl4.l9sl2.l7", withHelmets(0), 2, 0).helmets(3, 0);
        long above = walking("nl4.l9sl2.l7", withHelmets(0), 2, 0).helmets(3, 1);
        for (int now = 0; now < 64; now += 7) {
            StonesAbove x = walking("nl4.l9sl2.l7", withHelmets(now), 2, 0);
            Check.due("20 whoever has one now", x.helmets(3, 0), bits);
            Check.due("20 that HARM", x.helmets(3, 1), above);
            Check.due("20 they keep theirs", x.count(7), Integer.bitCount(now));
        }
    }

    /**
     * OTHERS come into PART 15 fifteen minutes behind their begin: who is in PART 0 then is hit still,
     * who comes in a minute later is not. Two WALKERS, so that one is below from the first.
     */
    private static void waitTillOthersAreOut() {
        for (int ahead : new int[] {0, 1, 7, 14, 15, 16, 17, 99}) {
            StonesAbove x = Check.with("n..............l9", "10.;10.");
            int wait = Math.max(0, 16 - ahead);
            Check.due("21 ahead " + ahead, x.waits(6, ahead, 999, 0), wait);
            Check.dueFraction("21 ahead " + ahead, x.waits(6, ahead, 999, 1), x.waits(6, ahead, 999, 2), wait, 1);
        }
    }

    /** "n (1 to 6)", "each by itself": WALKER 1 is hit by ODDS of 9 from each, by one PART. */
    private static void waitOfEachNumberOfOthers() {
        StonesAbove x = Check.with("n..............l9", "10.;10.");
        for (int n = 1; n <= 6; n++) {
            Check.due("21 of " + n, x.waits(n, 0, 1, 0), 0);
            Check.dueOf256("21 of " + n, x.waits(n, 0, 1, 1), x.waits(n, 0, 1, 2), 9 * n);
        }
        for (int n : new int[] {0, 7, -1, Edges.LEAST, Edges.MOST}) {
            Check.due("21 of " + n, x.waits(n, 0, 1, 0), Check.BAD_LONG);
        }
    }

    /** "COST (0 to 999)": by a wait of 0 HARM is 9 of 256, by 16 it is none. */
    private static void waitByCost() {
        StonesAbove x = Check.with("n..............l9", "10.;10.");
        int[][] told = {{0, 0, 0}, {1, 0, 9}, {455, 0, 4095}, {456, 16, 4096}, {999, 16, 4096}};
        for (int[] t : told) {
            Check.due("21 COST " + t[0], x.waits(1, 0, t[0], 0), t[1]);
            Check.dueOf256("21 COST " + t[0], x.waits(1, 0, t[0], 1), x.waits(1, 0, t[0], 2), t[2]);
        }
    }

    /** "of like ones the least": HARM is 4 of 256 by a wait of 0, none by 2: 2 are paid for both where COST is 128. */
    private static void waitOfLikeOnes() {
        StonesAbove x = Check.with(".l4", "10.;10.");
        int[][] told = {{127, 0, 508}, {128, 0, 512}, {129, 2, 512}};
        for (int[] t : told) {
            Check.due("21 COST " + t[0], x.waits(1, 0, t[0], 0), t[1]);
            Check.dueOf256("21 COST " + t[0], x.waits(1, 0, t[0], 1), x.waits(1, 0, t[0], 2), t[2]);
        }
    }

    /** Of like ones that both leave some HIT: 40 and 8 of 256 by waits of 0 and of 2, at 16: 640 of 256 for both. */
    private static void waitOfLikeOnesStillHit() {
        StonesAbove x = Check.with("l1l8.l6l2", "11.;11.");
        int[][] told = {{15, 0, 600}, {16, 0, 640}, {17, 2, 648}};
        for (int[] t : told) {
            Check.due("21 COST " + t[0], x.waits(1, 2, t[0], 0), t[1]);
            Check.dueOf256("21 COST " + t[0], x.waits(1, 2, t[0], 1), x.waits(1, 2, t[0], 2), t[2]);
        }
    }

    /** "which HIT as if it had an even number": in ZIGZAG WALKERS 1 and 3 are not hit. */
    private static void waitForEvenNumbers() {
        StonesAbove x = Check.with("...l4", "10.;10.;10.;10.;10.");
        x.set(0, 0);
        // In minute 3 all five are in PART 3 at PACE 1, in PART 1 at PACE 2: by 2 PARTS.
        Check.dueOf256("21 straight", x.waits(1, 0, 1, 1), x.waits(1, 0, 1, 2), 0);
        x.set(1, 1);
        Check.dueOf256("21 zigzag", x.waits(1, 0, 1, 1), x.waits(1, 0, 1, 2), 3 * 4 * 2);
        x.set(1, 0);
        Check.dueOf256("21 straight, ahead", x.waits(1, 2, 1, 1), x.waits(1, 2, 1, 2), 5 * 4 * 2);
    }

    private static void waitOfNone() {
        for (StonesAbove x : new StonesAbove[] {new StonesAbove(), Check.with("n.l9", ""), Check.with("", "90.;90.")}) {
            Check.due("21 none is hit", x.waits(6, 0, 999, 0), 0);
            Check.dueFraction("21 none is hit", x.waits(6, 0, 999, 1), x.waits(6, 0, 999, 2), 0, 1);
        }
    }
}
