/** The boundary cases of promises 12 to 15: the SUN's first minute, FRACTIONS, ENDS, LATEST. */
public final class HarmEdgesTest {
    private static final String SIX = "11.;11.;11.;11.;11.;11.";

    public static void main(String[] args) {
        fromTheSunOn();
        sunBeforeBeginAndAfterEnds();
        sunBeforeTheTexts();
        sunNone();
        sunFindsAllAlike();
        sunAndHelmets();
        fractionsOfNone();
        fractionsThatAreWhole();
        fractionsInLowestTerms();
        harmOfTheMost();
        allOfNone();
        allToWhomNobodyIsAbove();
        endsOfOne();
        endsOfNone();
        latestAroundSun();
        latestIsABegin();
        latestOfTheLongest();
        latestOfNone();
        Check.end();
    }

    /** "in each minute from SUN on": WALKER 0 is in PART m in minute m, stones come from PART 4 alone. */
    private static void fromTheSunOn() {
        StonesAbove x = Check.with("....l1", "19.");
        int[] above = {10, 6, 3, 1, 0, 0};
        for (int sun = 0; sun < above.length; sun++) {
            x.set(4, sun);
            Check.dueOf256("12 SUN " + sun, x.harm(-1, 0, 0), x.harm(-1, 0, 1), above[sun]);
        }
        x.set(1, 1);
        int[] zigzag = {20, 16, 12, 9, 6, 4, 2, 1, 0, 0};
        for (int sun = 0; sun < zigzag.length; sun++) {
            x.set(4, sun);
            Check.dueOf256("12 ZIGZAG, SUN " + sun, x.harm(-1, 0, 0), x.harm(-1, 0, 1), zigzag[sun]);
        }
    }

    private static void sunBeforeBeginAndAfterEnds() {
        StonesAbove x = Check.with("....l1", "19.");
        x.set(3, 999);
        x.set(4, 0);
        Check.dueOf256("12 SUN long before", x.harm(-1, 0, 0), x.harm(-1, 0, 1), 10);
        x.set(4, 999);
        Check.dueOf256("12 SUN just then", x.harm(-1, 0, 0), x.harm(-1, 0, 1), 10);
        x.set(4, 1000);
        Check.dueOf256("12 SUN a minute later", x.harm(-1, 0, 0), x.harm(-1, 0, 1), 6);
        x.set(4, 1002);
        Check.dueOf256("12 SUN in the last minute that counts", x.harm(-1, 0, 0), x.harm(-1, 0, 1), 1);
        x.set(4, 1003);
        Check.dueOf256("12 SUN when nothing is above", x.harm(-1, 0, 0), x.harm(-1, 0, 1), 0);
        x.set(4, 1999);
        Check.dueOf256("12 SUN 1999", x.harm(-1, 0, 0), x.harm(-1, 0, 1), 0);
    }

    /** The texts may come behind the settings, and change. */
    private static void sunBeforeTheTexts() {
        StonesAbove x = new StonesAbove();
        x.set(4, 0);
        Check.type(x, 0, "....l1");
        Check.type(x, 1, "19.");
        Check.dueOf256("12 the SUN", x.harm(-1, 0, 0), x.harm(-1, 0, 1), 10);
        x.undo(0);
        Check.dueOf256("12 the SUN, one byte undone", x.harm(-1, 0, 0), x.harm(-1, 0, 1), 0);
        x.type(0, '9');
        Check.type(x, 0, ".l9");
        Check.dueOf256("12 the SUN, two PARTS more", x.harm(-1, 0, 0), x.harm(-1, 0, 1), 10 + 21);
        x.wipe(0);
        Check.dueOf256("12 the SUN, no PARTS", x.harm(-1, 0, 0), x.harm(-1, 0, 1), 0);
        Check.type(x, 0, "nl1");
        Check.dueOf256("12 the SUN, other PARTS", x.harm(-1, 0, 0), x.harm(-1, 0, 1), 2);
        Check.retype(x, 1, "19h");
        Check.dueOf256("12 the SUN, a helmet", x.harm(-1, 0, 0), x.harm(-1, 0, 1), 1);
    }

    /** "SUNNED (0 to 16; 1 at first)". */
    private static void sunNone() {
        StonesAbove x = Check.with("....l1", "19.");
        x.set(4, 0);
        for (int sunned : new int[] {1, 0, 16, 15}) {
            x.set(5, sunned);
            Check.dueOf256("12 SUNNED " + sunned, x.harm(-1, 0, 0), x.harm(-1, 0, 1), 10 * sunned);
        }
    }

    /** "which HITS likewise (all alike, ZIGZAG or not)". */
    private static void sunFindsAllAlike() {
        StonesAbove x = Check.with("....l1", SIX);
        x.set(0, 0);
        x.set(4, 0);
        for (int zigzag = 0; zigzag < 2; zigzag++) {
            x.set(1, zigzag);
            for (int w = 0; w < 6; w++) {
                Check.dueOf256("12 the SUN to " + w, x.harm(-1, w, 0), x.harm(-1, w, 1), 10 + 10 * zigzag);
            }
        }
    }

    /** By 4, 3, 2, 1: halves with a helmet, each cut; by more than LAG too. */
    private static void sunAndHelmets() {
        StonesAbove x = Check.with("....l1", "19h;19.");
        x.set(0, 0);
        x.set(4, 0);
        Check.dueOf256("12 the SUN to a helmet", x.harm(-1, 0, 0), x.harm(-1, 0, 1), 2 + 1 + 1);
        x.set(2, 2);
        Check.dueOf256("12 the SUN by a shout", x.harm(-1, 1, 0), x.harm(-1, 1, 1), 2 + 1 + 2 + 1);
        Check.dueOf256("12 the SUN by both", x.harm(-1, 0, 0), x.harm(-1, 0, 1), 1 + 1);
    }

    /** "FRACTIONS ... (0 by 1)". */
    private static void fractionsOfNone() {
        StonesAbove x = Check.with("...", "11.;11.");
        Check.dueFraction("12 harm", x.harm(0, 1, 0), x.harm(0, 1, 1), 0, 1);
        Check.dueFraction("12 harm by the SUN", x.harm(-1, 1, 0), x.harm(-1, 1, 1), 0, 1);
        Check.dueFraction("13 all, of one", x.all(1, 0), x.all(1, 1), 0, 1);
        Check.dueFraction("13 all", x.all(-1, 0), x.all(-1, 1), 0, 1);
        Check.dueFraction("16 curve", x.curve(1, 0), x.curve(1, 1), 0, 1);
        Check.dueFraction("19 ordered", x.ordered(0), x.ordered(1), 0, 1);
        Check.dueFraction("20 helmets", x.helmets(0, 1), x.helmets(0, 2), 0, 1);
        Check.dueFraction("21 waits", x.waits(1, 0, 9, 1), x.waits(1, 0, 9, 2), 0, 1);
    }

    /** 16 sixteenths by 16: 1 by 1; of six that go together: 6 by 1. */
    private static void fractionsThatAreWhole() {
        StonesAbove x = Check.with("nsssssssl1", "19.;19.;19.;19.;19.;19.");
        x.set(0, 0);
        x.set(4, 0);
        x.set(5, 16);
        Check.dueFraction("12 once for sure", x.harm(-1, 5, 0), x.harm(-1, 5, 1), 1, 1);
        Check.dueFraction("13 all, of one", x.all(5, 0), x.all(5, 1), 1, 1);
        Check.dueFraction("13 all", x.all(-1, 0), x.all(-1, 1), 6, 1);
        x.set(5, 8);
        Check.dueFraction("12 by a half", x.harm(-1, 5, 0), x.harm(-1, 5, 1), 1, 2);
        Check.dueFraction("13 six halves", x.all(-1, 0), x.all(-1, 1), 3, 1);
    }

    private static void fractionsInLowestTerms() {
        StonesAbove x = Check.with(".l1", "19.");
        x.set(4, 0);
        int[][] told = {{1, 1, 256}, {2, 1, 128}, {3, 3, 256}, {4, 1, 64}, {6, 3, 128}, {8, 1, 32}, {12, 3, 64}, {15, 15, 256}, {16, 1, 16}};
        for (int[] t : told) {
            x.set(5, t[0]);
            Check.dueFraction("12 of " + t[0] + " by 256", x.harm(-1, 0, 0), x.harm(-1, 0, 1), t[1], t[2]);
        }
    }

    /** The most HARM by one: LOOSE all along, one PART behind; ODDS of 12 in PARTS 1 to 15, by 1 each. */
    private static void harmOfTheMost() {
        StonesAbove x = Check.with("l9l9l9l9l9l9l9l9l9l9l9l9l9l9l9l9", "90.;90.");
        Check.dueOf256("12 GAP 1", x.harm(0, 1, 0), x.harm(0, 1, 1), 15 * 12);
        x.set(0, 8);
        Check.dueOf256("12 GAP 8", x.harm(0, 1, 0), x.harm(0, 1, 1), 8 * 8 * 12);
        x.set(0, 15);
        Check.dueOf256("12 GAP 15", x.harm(0, 1, 0), x.harm(0, 1, 1), 15 * 12);
        x.set(0, 16);
        Check.dueOf256("12 GAP 16", x.harm(0, 1, 0), x.harm(0, 1, 1), 0);
        x.set(1, 1);
        x.set(4, 0);
        x.set(5, 16);
        // In PART p by 15 - p and all below that: 120, 105, ... 1, 0, two minutes each.
        Check.dueOf256("12 by the SUN", x.harm(-1, 1, 0), x.harm(-1, 1, 1), 2 * 16 * 680);
    }

    private static void allOfNone() {
        StonesAbove x = new StonesAbove();
        Check.dueFraction("13 all(NONE) of a new object", x.all(-1, 0), x.all(-1, 1), 0, 1);
        Check.due("13 all(0) of a new object", x.all(0, 0), Check.BAD_LONG);
        Check.due("12 harm(NONE, 0) of a new object", x.harm(-1, 0, 0), Check.BAD_LONG);
        Check.due("12 harm(NONE, NONE)", Check.with("..", "11.").harm(-1, -1, 0), Check.BAD_LONG);
    }

    /** HARM to the first is by the SUN alone; to the last by all. */
    private static void allToWhomNobodyIsAbove() {
        StonesAbove x = Check.with("..l4", "11.;11.;11.");
        x.set(4, 0);
        Check.dueOf256("13 all(0)", x.all(0, 0), x.all(0, 1), 3);
        Check.dueOf256("13 all(1)", x.all(1, 0), x.all(1, 1), 3 + 4);
        Check.dueOf256("13 all(2)", x.all(2, 0), x.all(2, 1), 3 + 4 + 8);
        Check.dueOf256("13 all(NONE)", x.all(-1, 0), x.all(-1, 1), 25);
    }

    /** "the minute in which the last is out above": the first in which it is in no PART any more. */
    private static void endsOfOne() {
        StonesAbove x = Check.with(".", "11.");
        Check.due("14 one in one PART", x.ends(), 1);
        Check.due("in the minute before it", x.place(0, 0), 0);
        Check.due("in it", x.place(0, 1), -1);
        x.set(1, 1);
        Check.due("14 ZIGZAG", x.ends(), 2);
        Check.due("in the minute before it", x.place(0, 1), 0);
        x.set(0, 99);
        Check.due("14 GAP is nothing to one", x.ends(), 2);
        Check.type(x, 1, ";11.");
        Check.due("14 two", x.ends(), 101);
    }

    /** "BEGIN, where there are no WALKERS, or no PARTS". */
    private static void endsOfNone() {
        for (int begin : new int[] {0, 1, 999}) {
            StonesAbove none = new StonesAbove();
            none.set(3, begin);
            Check.due("14 neither", none.ends(), begin);
            StonesAbove parts = Check.with("...", "");
            parts.set(3, begin);
            Check.due("14 no WALKERS", parts.ends(), begin);
            StonesAbove walkers = Check.with("", "11.;11.");
            walkers.set(3, begin);
            walkers.set(0, 99);
            Check.due("14 no PARTS", walkers.ends(), begin);
        }
    }

    /** "the latest BEGIN by which all are out no later than SUN": two in three PARTS take 4 minutes. */
    private static void latestAroundSun() {
        int[][] told = {{0, -1}, {3, -1}, {4, 0}, {5, 1}, {1002, 998}, {1003, 999}, {1004, 999}, {1999, 999}};
        for (int[] t : told) {
            StonesAbove x = Check.with("...", "11.;11.");
            x.set(4, t[0]);
            Check.due("15 SUN " + t[0], x.latest(), t[1]);
            if (t[1] >= 0) {
                x.set(3, t[1]);
                Check.due("15 out by then", x.ends() <= t[0] ? 1 : 0, 1);
            }
        }
    }

    /** It is asked of any BEGIN, whatever it is now, and leaves it. */
    private static void latestIsABegin() {
        StonesAbove x = Check.with("...", "11.;11.");
        x.set(4, 10);
        x.set(3, 999);
        Check.due("15 latest", x.latest(), 6);
        Check.due("BEGIN is as it was", x.set(3, 0), 999);
    }

    private static void latestOfTheLongest() {
        StonesAbove x = Check.with("................", SIX);
        x.set(0, 99);
        x.set(1, 1);
        int[][] told = {{526, -1}, {527, 0}, {1525, 998}, {1526, 999}, {1527, 999}};
        for (int[] t : told) {
            x.set(4, t[0]);
            Check.due("15 SUN " + t[0], x.latest(), t[1]);
        }
    }

    /** Without WALKERS, ENDS is BEGIN: no later than SUN, and 999 at most. */
    private static void latestOfNone() {
        for (StonesAbove x : new StonesAbove[] {new StonesAbove(), Check.with("...", ""), Check.with("", "11.;11.")}) {
            int[][] told = {{0, 0}, {1, 1}, {998, 998}, {999, 999}, {1000, 999}, {1999, 999}};
            for (int[] t : told) {
                x.set(4, t[0]);
                Check.due("15 none, SUN " + t[0], x.latest(), t[1]);
            }
        }
    }
}
