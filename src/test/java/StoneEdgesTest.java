/** The boundary cases of promises 9 to 15: first and last minutes, cuts, the least and the most of ODDS and HITS, HARM, ENDS, LATEST. */
public final class StoneEdgesTest {
    private static final String SIXTEEN_FIRM = "................";
    private static final String SIX = "11.;11.;11.;11.;11.;11.";

    public static void main(String[] args) {
        firstAndLastMinuteOfEach();
        paceOfZigzagIsCut();
        gapNone();
        farthestOfAll();
        placeWithoutParts();
        thirdsAreCut();
        oddsAreNotBelowNone();
        oddsOfTheMost();
        oddsWhereItIsNotLoose();
        hitsByHowFarItFell();
        hitsInANarrowPart();
        hitsInAShelter();
        hitsOfWhatIsNotBelow();
        hitsAroundLag();
        hitsAreCut();
        cappedBeforeItIsHalved();
        zigzagIsAsideInHits();
        harmAtTheLowestPart();
        harmInTheMinuteItComesIn();
        oddAndEvenNumbers();
        Check.end();
    }

    /** "NONE: not yet in, or already out above". */
    private static void firstAndLastMinuteOfEach() {
        StonesAbove x = Check.with("...", SIX);
        x.set(0, 7);
        x.set(3, 20);
        for (int w = 0; w < 6; w++) {
            int begins = 20 + 7 * w;
            for (int m = begins - 3; m <= begins + 5; m++) {
                int since = m - begins;
                Check.due("9 place(" + w + ", " + m + ")", x.place(w, m), since >= 0 && since <= 2 ? since : -1);
            }
        }
    }

    /** "as many PACES behind that (cut)". */
    private static void paceOfZigzagIsCut() {
        StonesAbove x = Check.with("...", SIX);
        x.set(0, 3);
        x.set(1, 1);
        x.set(3, 10);
        int[] parts = {-1, -1, 0, 0, 1, 1, 2, 2, -1, -1};
        for (int w = 0; w < 6; w++) {
            for (int i = 0; i < parts.length; i++) {
                int m = 10 + 3 * w - 2 + i;
                Check.due("9 zigzag, place(" + w + ", " + m + ")", x.place(w, m), parts[i]);
            }
        }
    }

    private static void gapNone() {
        StonesAbove x = Check.with("...", SIX);
        x.set(0, 0);
        for (int w = 0; w < 6; w++) {
            for (int m = 0; m < 4; m++) {
                Check.due("9 GAP 0, place(" + w + ", " + m + ")", x.place(w, m), m < 3 ? m : -1);
            }
        }
    }

    /** The latest minute in which anyone can be in: BEGIN 999, GAP 99, ZIGZAG, six WALKERS, sixteen PARTS. */
    private static void farthestOfAll() {
        StonesAbove x = Check.with(SIXTEEN_FIRM, SIX);
        x.set(0, 99);
        x.set(1, 1);
        x.set(3, 999);
        Check.due("not yet in", x.place(5, 1493), -1);
        Check.due("in", x.place(5, 1494), 0);
        Check.due("the last minute in", x.place(5, 1525), 15);
        Check.due("out above", x.place(5, 1526), -1);
        Check.due("out above, minute 1999", x.place(5, 1999), -1);
        Check.due("not yet in, minute 0", x.place(0, 0), -1);
        Check.due("the first one, not yet in", x.place(0, 998), -1);
        Check.due("the first one, in", x.place(0, 999), 0);
        Check.due("14 ends", x.ends(), 1526);
    }

    private static void placeWithoutParts() {
        StonesAbove x = Check.with("", "11.");
        Check.due("no PARTS, minute 0", x.place(0, 0), -1);
        Check.due("no PARTS, minute 1999", x.place(0, 1999), -1);
    }

    /** "more by a third of WEIGHT (cut), less by a third of SKILL (cut)": every WEIGHT, every SKILL. */
    private static void thirdsAreCut() {
        int[] third = {0, 0, 0, 1, 1, 1, 2, 2, 2, 3};
        for (int weight = 1; weight <= 9; weight++) {
            for (int skill = 0; skill <= 9; skill++) {
                StonesAbove x = Check.with("l5", "" + weight + skill + ".");
                Check.due("10 treads of " + weight + skill + ".", x.treads(0, 0), 5 + third[weight] - third[skill]);
            }
        }
    }

    /** "0 at least". */
    private static void oddsAreNotBelowNone() {
        StonesAbove x = Check.with("l1l2l3l4l5", "19.;29h;39.;16.;13.");
        int[][] odds = {{0, 0, 0, 1, 2}, {0, 0, 0, 1, 2}, {0, 0, 1, 2, 3}, {0, 0, 1, 2, 3}, {0, 1, 2, 3, 4}};
        for (int w = 0; w < 5; w++) {
            for (int p = 0; p < 5; p++) {
                Check.due("10 treads(" + w + ", " + p + ")", x.treads(w, p), odds[w][p]);
            }
        }
    }

    /** "16 at most" is never reached: the most that a text can tell is 9 and 3. */
    private static void oddsOfTheMost() {
        StonesAbove x = Check.with("l9", "90.;82.;62.");
        Check.due("10 LOOSE 9, WEIGHT 9, SKILL 0", x.treads(0, 0), 12);
        Check.due("10 LOOSE 9, WEIGHT 8, SKILL 2", x.treads(1, 0), 11);
        Check.due("10 LOOSE 9, WEIGHT 6, SKILL 2", x.treads(2, 0), 11);
    }

    /** "0: it is not LOOSE", however heavy the WALKER is. */
    private static void oddsWhereItIsNotLoose() {
        StonesAbove x = Check.with(".snl1", "90.");
        int[] odds = {0, 0, 0, 4};
        for (int p = 0; p < 4; p++) {
            Check.due("10 treads(0, " + p + ")", x.treads(0, p), odds[p]);
        }
    }

    private static void hitsByHowFarItFell() {
        StonesAbove x = Check.with(SIXTEEN_FIRM, "");
        for (int from = 0; from < 16; from++) {
            for (int to = 0; to < 16; to++) {
                int by = Math.max(0, from - to);
                Check.due("11 hits(" + from + ", " + to + ", 0)", x.hits(from, to, 0), by);
                Check.due("11 hits(" + from + ", " + to + ", 1)", x.hits(from, to, 1), by / 2);
            }
        }
    }

    /** "twice that if that one is narrow (16 at most)". */
    private static void hitsInANarrowPart() {
        StonesAbove x = Check.with("n...............", "");
        int[] by = {0, 2, 4, 6, 8, 10, 12, 14, 16, 16, 16, 16, 16, 16, 16, 16};
        for (int from = 0; from < 16; from++) {
            Check.due("11 hits(" + from + ", 0, 0), narrow", x.hits(from, 0, 0), by[from]);
            Check.due("11 hits(" + from + ", 0, 1), narrow", x.hits(from, 0, 1), by[from] / 2);
        }
        StonesAbove y = Check.with(".n..............", "");
        Check.due("11 it begins in a narrow one", y.hits(1, 0, 0), 1);
        Check.due("11 it falls through a narrow one", y.hits(9, 0, 0), 9);
    }

    /** "0 in a shelter": in it, not below it. */
    private static void hitsInAShelter() {
        StonesAbove x = Check.with(".s..............", "");
        for (int from = 0; from < 16; from++) {
            Check.due("11 hits(" + from + ", 1, 0), a shelter", x.hits(from, 1, 0), 0);
        }
        Check.due("11 below a shelter", x.hits(15, 0, 0), 15);
        Check.due("11 from a shelter", x.hits(1, 0, 0), 1);
    }

    /** "0: that is not below". */
    private static void hitsOfWhatIsNotBelow() {
        StonesAbove x = Check.with("nl9n", "");
        Check.due("11 the same PART", x.hits(1, 1, 0), 0);
        Check.due("11 the same narrow PART", x.hits(2, 2, 0), 0);
        Check.due("11 one above", x.hits(1, 2, 0), 0);
        Check.due("11 two above", x.hits(0, 2, 0), 0);
        Check.due("11 one below", x.hits(1, 0, 0), 2);
    }

    /** "half of it (cut) if it fell by more than LAG (0 to 16; 16 at first)": for every LAG, by every fall. */
    private static void hitsAroundLag() {
        for (int lag = 0; lag <= 16; lag++) {
            StonesAbove x = Check.with(SIXTEEN_FIRM, "");
            x.set(2, lag);
            for (int fall = 1; fall <= 15; fall++) {
                int by = fall > lag ? fall / 2 : fall;
                Check.due("11 LAG " + lag + ", fall " + fall, x.hits(fall, 0, 0), by);
                Check.due("11 LAG " + lag + ", fall " + fall + ", a helmet", x.hits(fall, 0, 1), by / 2);
            }
        }
    }

    private static void hitsAreCut() {
        StonesAbove x = Check.with("......", "");
        Check.due("11 1 with a helmet", x.hits(1, 0, 1), 0);
        Check.due("11 2 with a helmet", x.hits(2, 0, 1), 1);
        Check.due("11 3 with a helmet", x.hits(3, 0, 1), 1);
        x.set(2, 0);
        Check.due("11 1 by a shout", x.hits(1, 0, 0), 0);
        Check.due("11 3 by a shout", x.hits(3, 0, 0), 1);
        Check.due("11 3 by both", x.hits(3, 0, 1), 0);
        Check.due("11 4 by both", x.hits(4, 0, 1), 1);
        Check.due("11 5 by both", x.hits(5, 0, 1), 1);
    }

    /** 16 at most, then half of it: 8, not 15. LAG is compared with how far it fell, not with the sixteenths. */
    private static void cappedBeforeItIsHalved() {
        StonesAbove x = Check.with("n...............", "");
        x.set(2, 8);
        Check.due("11 by 8, LAG 8, narrow", x.hits(8, 0, 0), 16);
        Check.due("11 by 9, LAG 8, narrow", x.hits(9, 0, 0), 8);
        Check.due("11 by 15, LAG 8, narrow", x.hits(15, 0, 0), 8);
        Check.due("11 by 15, LAG 8, narrow, a helmet", x.hits(15, 0, 1), 4);
        x.set(2, 15);
        Check.due("11 by 15, LAG 15", x.hits(15, 0, 0), 16);
        x.set(2, 14);
        Check.due("11 by 15, LAG 14", x.hits(15, 0, 0), 8);
    }

    private static void zigzagIsAsideInHits() {
        StonesAbove x = Check.with("....", "");
        x.set(1, 1);
        Check.due("11 ZIGZAG aside", x.hits(3, 0, 0), 3);
        Check.due("11 ZIGZAG aside, one odd, one even", x.hits(3, 2, 0), 1);
    }

    /** A stone from PART 5 is in PART 0 in minute 5: GAP 5 is the last by which it hits there. ODDS are 3. */
    private static void harmAtTheLowestPart() {
        StonesAbove x = Check.with(".....l3", "11.;11.");
        int[] above = {0, 3, 6, 9, 12, 15, 0, 0};
        for (int gap = 0; gap < above.length; gap++) {
            x.set(0, gap);
            Check.dueOf256("12 GAP " + gap, x.harm(0, 1, 0), x.harm(0, 1, 1), above[gap]);
        }
        x.set(0, 99);
        Check.dueOf256("12 GAP 99", x.harm(0, 1, 0), x.harm(0, 1, 1), 0);
        Check.dueOf256("12 by one below", x.harm(1, 0, 0), x.harm(1, 0, 1), 0);
    }

    /** "In the minute in which a WALKER comes into a PART", and not in the second one that it is there. */
    private static void harmInTheMinuteItComesIn() {
        StonesAbove x = Check.with("..l3", "11.;11.;11.");
        x.set(1, 1);
        // WALKER 0 comes into PART 2 in minute 4; GAP 1: WALKER 2 is in PART 1 then, and would be in 1 in minute 5 too.
        Check.dueOf256("12 GAP 1", x.harm(0, 2, 0), x.harm(0, 2, 1), 3);
        x.set(0, 2);
        // GAP 2: WALKER 2 comes in just then; in minute 5 it would be hit a second time.
        Check.dueOf256("12 GAP 2", x.harm(0, 2, 0), x.harm(0, 2, 1), 6);
        x.set(0, 3);
        Check.dueOf256("12 GAP 3", x.harm(0, 2, 0), x.harm(0, 2, 1), 0);
    }

    /** "0 where they go ZIGZAG and their numbers are one odd, one even": every two of six. */
    private static void oddAndEvenNumbers() {
        StonesAbove x = Check.with(".....l3", SIX);
        for (int zigzag = 0; zigzag < 2; zigzag++) {
            x.set(1, zigzag);
            for (int by = 0; by < 6; by++) {
                for (int to = 0; to < 6; to++) {
                    // At PACE 2 WALKER 2 is a PART below WALKER 0, WALKER 3 and a half; at PACE 1 as many as its number.
                    int below = zigzag == 1 ? (to - by) / 2 : to - by;
                    boolean hit = to > by && (zigzag == 0 || (to - by) % 2 == 0);
                    if (by != to) {
                        Check.dueOf256("12 harm(" + by + ", " + to + ")", x.harm(by, to, 0), x.harm(by, to, 1), hit ? 3 * below : 0);
                    } else {
                        Check.due("12 to itself", x.harm(by, to, 0), Check.BAD_LONG);
                        Check.due("12 to itself, below", x.harm(by, to, 1), Check.BAD_LONG);
                    }
                }
            }
        }
    }
}
