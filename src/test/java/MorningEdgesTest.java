/**
 * The boundary cases of promise 27: LOTS that are just less or not, SEEDS that wrap, the first and the
 * last minute. LOTS are drawn here once more, in longs, so that nothing wraps by itself.
 */
public final class MorningEdgesTest {
    private static final int[] SEEDS = {Integer.MIN_VALUE, Integer.MIN_VALUE + 1, -65536, -2, -1, 0, 1, 2, 65535, 65536, Integer.MAX_VALUE - 1, Integer.MAX_VALUE};
    /** A stone from PART 8 hits by 16 sixteenths who is in PART 0, and nobody else. */
    private static final String ONE_TARGET = "nsssssssl";

    private static long seed;

    public static void main(String[] args) {
        lotsOfTheSun();
        lotsOfFeet();
        lotsOfHits();
        noLotForWhomItMisses();
        aLotEvenWhereItCannotBe();
        feetBeforeTheSun();
        walkersByNumbers();
        partsByNumbers();
        theLowestPartDrawsToo();
        fromTheSunOn();
        theSunBeforeBeginDrawsNothing();
        oddNumbersInZigzag();
        nobody();
        aSeedIsNotKept();
        Check.end();
    }

    /** "SEED becomes 1103515245 SEED and 12345, as ints that wrap; its upper 16 bits as a number from 0 on, modulo m." */
    private static int lot() {
        seed = Math.floorMod(1103515245L * seed + 12345L, 1L << 32);
        return (int) (seed / 65536 % 16);
    }

    private static void seeded(int s) {
        seed = Math.floorMod((long) s, 1L << 32);
    }

    /** The SEEDS named, and enough others for each LOT to come. */
    private static int[] seeds() {
        int[] all = java.util.Arrays.copyOf(SEEDS, SEEDS.length + 60);
        for (int i = 0; i < 60; i++) {
            all[SEEDS.length + i] = i * 71582788 + i;
        }
        return all;
    }

    /** "a LOT of 16 less than SUNNED: a stone": in minute 0 the first LOT tells; who is hit is hit by 16. */
    private static void lotsOfTheSun() {
        boolean[] came = new boolean[16];
        for (int s : seeds()) {
            for (int sunned = 0; sunned <= 16; sunned++) {
                StonesAbove x = Check.with(ONE_TARGET + "1", "19.");
                x.set(4, 0);
                x.set(5, sunned);
                seeded(s);
                int first = lot();
                came[first] = true;
                Check.due("27 SUNNED " + sunned + ", LOT " + first, x.morning(s), first < sunned ? 1 : 0);
            }
        }
        for (int v = 0; v < 16; v++) {
            Check.due("LOT " + v + " came", came[v] ? 1 : 0, 1);
        }
    }

    /** "a LOT of 16 less than its ODDS: a stone": WALKER 0 comes into PART 8 just when WALKER 1 comes in below. */
    private static void lotsOfFeet() {
        for (int s : seeds()) {
            for (int loose = 1; loose <= 9; loose++) {
                for (String first : new String[] {"90.", "10.", "19."}) {
                    StonesAbove x = Check.with(ONE_TARGET + loose, first + ";10.");
                    x.set(0, 8);
                    seeded(s);
                    int due = lot() < x.treads(0, 8) ? 1 : 0;
                    Check.due("27 LOOSE " + loose + ", " + first, x.morning(s), due);
                }
            }
        }
    }

    /** "a LOT of 16 less than that: it is HIT": the SUN sends one for sure, which hits in PART 0 by how far it fell. */
    private static void lotsOfHits() {
        for (int s : seeds()) {
            for (int by = 1; by <= 15; by++) {
                StonesAbove x = Check.with("." + "s".repeat(by - 1) + "l1", "19.");
                x.set(4, 0);
                x.set(5, 16);
                seeded(s);
                lot();
                int due = lot() < by ? 1 : 0;
                Check.due("27 HITS by " + by, x.morning(s), due);
            }
        }
    }

    /** "each for whom it HITS by more than 0": of three together in PART 0 the one whom it does not hit draws none. */
    private static void noLotForWhomItMisses() {
        for (int s : seeds()) {
            StonesAbove x = Check.with(".l1", "19.;19h;19.");
            x.set(0, 0);
            x.set(4, 0);
            x.set(5, 16);
            seeded(s);
            lot();
            int due = (lot() < 1 ? 1 : 0) + (lot() < 1 ? 1 : 0);
            Check.due("27 by 1, by 0 with a helmet, by 1", x.morning(s), due);
        }
    }

    /** "each that comes into a LOOSE PART: a LOT", by ODDS of 0 too; "PARTS that are LOOSE from SUN on: a LOT", by SUNNED of 0 too. */
    private static void aLotEvenWhereItCannotBe() {
        for (int s : seeds()) {
            StonesAbove x = Check.with("l1sssssssl4", "19.;10.");
            x.set(0, 8);
            seeded(s);
            lot();
            int odds = x.treads(0, 8);
            Check.due("27 ODDS", odds, 1);
            // In minute 0 by ODDS of 0; in minute 8 by 1, and if so who is hit by 8.
            int due = lot() < odds && lot() < 8 ? 1 : 0;
            Check.due("27 a LOT by ODDS of 0", x.morning(s), due);
            StonesAbove y = Check.with(ONE_TARGET + "9", "10.;10.");
            y.set(0, 8);
            y.set(4, 7);
            y.set(5, 0);
            seeded(s);
            lot();
            Check.due("27 a LOT by SUNNED of 0", y.morning(s), lot() < 9 ? 1 : 0);
        }
    }

    /** In one minute the foot draws first, then its stone's HIT, then the SUN. */
    private static void feetBeforeTheSun() {
        for (int s : seeds()) {
            StonesAbove x = Check.with(ONE_TARGET + "9", "10.;10.");
            x.set(0, 8);
            x.set(4, 8);
            x.set(5, 5);
            seeded(s);
            int due = 0;
            if (lot() < 9) {
                lot();
                due++;
            }
            due += lot() < 5 ? 1 : 0;
            Check.due("27 a foot, then the SUN", x.morning(s), due);
        }
    }

    /** Two come into one PART at once: the first draws, and who is hit by that, then the second. */
    private static void walkersByNumbers() {
        for (int s : seeds()) {
            StonesAbove x = Check.with("l9", "90.;10.");
            x.set(0, 0);
            Check.due("27 nobody is below", x.morning(s), 0);
            // WALKER 0 comes into PART 2 (LOOSE 2), WALKER 1 into PART 1 (LOOSE 9), WALKER 2 is in PART 0.
            StonesAbove y = Check.with(".l9l2", "10.;30.;10.");
            seeded(s);
            int due = 0;
            due += minuteOne();
            due += minuteTwo();
            due += minuteThree();
            Check.due("27 by numbers", y.morning(s), due);
        }
    }

    /** WALKER 0 comes into PART 1 by 9; WALKER 1 is in PART 0. */
    private static int minuteOne() {
        return lot() < 9 && lot() < 1 ? 1 : 0;
    }

    /** WALKER 0 comes into PART 2 by 2: WALKER 1 by 1, WALKER 2 by 2; WALKER 1 into PART 1 by 10: WALKER 2 by 1. */
    private static int minuteTwo() {
        int hit = 0;
        if (lot() < 2) {
            hit += lot() < 1 ? 1 : 0;
            hit += lot() < 2 ? 1 : 0;
        }
        return hit + (lot() < 10 && lot() < 1 ? 1 : 0);
    }

    /** WALKER 1 comes into PART 2 by 3: WALKER 2, in PART 1, by 1; then nobody is below. */
    private static int minuteThree() {
        return lot() < 3 && lot() < 1 ? 1 : 0;
    }

    /** The SUN's stones come from PART 1, then from PART 2. */
    private static void partsByNumbers() {
        for (int s : seeds()) {
            StonesAbove x = Check.with("nl1l1s", "19.");
            x.set(4, 0);
            x.set(5, 9);
            seeded(s);
            int due = 0;
            due += lot() < 9 && lot() < 2 ? 1 : 0;
            due += lot() < 9 && lot() < 4 ? 1 : 0;
            // Minute 1: it comes into PART 1 by ODDS of 0; a stone from PART 2 hits by 1.
            lot();
            lot();
            due += lot() < 9 && lot() < 1 ? 1 : 0;
            Check.due("27 PARTS by numbers", x.morning(s), due);
        }
    }

    /** The SUN's stone from PART 0 has nobody below, but its LOT is drawn, behind that of the foot. */
    private static void theLowestPartDrawsToo() {
        for (int s : seeds()) {
            StonesAbove x = Check.with("l1sssssssl1", "19.");
            x.set(4, 0);
            x.set(5, 9);
            seeded(s);
            lot();
            lot();
            Check.due("27 PART 0 is LOOSE", x.morning(s), lot() < 9 && lot() < 8 ? 1 : 0);
        }
    }

    /** For sure by 16 and 16: whoever is in PART 0 from SUN on is hit in each minute. */
    private static void fromTheSunOn() {
        int[][] told = {{0, 3}, {1, 2}, {10, 2}, {11, 1}, {20, 1}, {21, 0}, {1999, 0}};
        for (int[] t : told) {
            StonesAbove x = Check.with(ONE_TARGET + "1", "19.;19.;19.");
            x.set(0, 10);
            x.set(4, t[0]);
            x.set(5, 16);
            Check.due("27 SUN " + t[0], x.morning(1), t[1]);
            x.set(3, 979);
            Check.due("27 BEGIN 979, SUN " + t[0], x.morning(1), t[0] == 1999 ? 0 : 3);
        }
        StonesAbove last = Check.with(ONE_TARGET + "1", "19.;19.;19.;19.;19.;19.");
        last.set(0, 99);
        last.set(1, 1);
        last.set(3, 999);
        last.set(5, 16);
        int[][] latest = {{1493, 2}, {1494, 2}, {1495, 1}, {1496, 0}};
        for (int[] t : latest) {
            last.set(4, t[0]);
            Check.due("27 the last of all, SUN " + t[0], last.morning(1), t[1]);
        }
    }

    /** "from BEGIN": what the SUN sent before that drew no LOTS. */
    private static void theSunBeforeBeginDrawsNothing() {
        for (int s : SEEDS) {
            StonesAbove x = Check.with(ONE_TARGET + "1", "19.");
            x.set(3, 999);
            x.set(4, 0);
            x.set(5, 8);
            seeded(s);
            Check.due("27 the first LOT is in minute BEGIN", x.morning(s), lot() < 8 ? 1 : 0);
        }
    }

    /** In ZIGZAG a foot's stone neither hits nor draws for the others' side; the SUN's does. */
    private static void oddNumbersInZigzag() {
        for (int s : seeds()) {
            StonesAbove x = Check.with(ONE_TARGET + "9", "10.;10.;10.");
            x.set(1, 1);
            x.set(0, 8);
            // WALKER 0 comes into PART 8 in minute 16, as WALKER 2 comes in; WALKER 1 is in a shelter.
            seeded(s);
            Check.due("27 both even", x.morning(s), lot() < 9 ? 1 : 0);
            x.set(0, 16);
            // Now WALKER 1 comes in just then.
            Check.due("27 one odd, one even", x.morning(s), 0);
        }
    }

    private static void nobody() {
        for (int s : SEEDS) {
            Check.due("27 neither", new StonesAbove().morning(s), 0);
            Check.due("27 no WALKERS", Check.with("nl9l9", "").morning(s), 0);
            Check.due("27 no PARTS", Check.with("", "90.;90.").morning(s), 0);
            Check.due("27 nothing LOOSE", Check.with("nnn", "90.;90.").morning(s), 0);
        }
    }

    private static void aSeedIsNotKept() {
        StonesAbove x = Check.with("n..l9.nl9l9.l5", "90.;90.;72.;80h;90.;91.");
        long before = x.digest();
        int one = x.morning(1);
        x.morning(Edges.MOST);
        Check.due("27 the same SEED again", x.morning(1), one);
        Check.due("27 changes nothing", x.digest(), before);
    }
}
