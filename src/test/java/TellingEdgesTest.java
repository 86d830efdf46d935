/** The boundary cases of promises 22 to 26: what can have sent a stone, eight FELL, the likeliest of like ones, items that may not be. */
public final class TellingEdgesTest {
    public static void main(String[] args) {
        footInTheMinuteItComesIn();
        footAroundTheSun();
        footOfNothing();
        footOfNoChance();
        footOfTheMost();
        footInTheLastMinute();
        footOfTheFarthest();
        eightFell();
        fellOfWhatIsNotThere();
        forgotten();
        looseOfNothingTold();
        looseIsOneToNine();
        looseOfLikeOnes();
        looseOfEight();
        looseOfWalkersThatThereAre();
        looseOfThatPartAlone();
        readAsManyAsAreWhole();
        readAsLongAsEachMayBe();
        readTillFull();
        readOfEachForm();
        readLeavesTheSheet();
        Check.end();
    }

    private static void dueFoot(String told, StonesAbove x, int part, int minute, long above, long below) {
        String call = "22 " + told + ", foot(" + part + ", " + minute + ")";
        Check.dueFraction(call, x.foot(part, minute, 0), x.foot(part, minute, 1), above, below);
    }

    private static void dueNot(String told, StonesAbove x, int part, int minute) {
        String call = "22 " + told + ", foot(" + part + ", " + minute + ")";
        Check.dueFraction(call, x.foot(part, minute, 0), x.foot(part, minute, 1), Check.NOT_LONG, Check.NOT_LONG);
    }

    /** "WALKERS that come into it then": neither a minute before nor while it stays there. */
    private static void footInTheMinuteItComesIn() {
        StonesAbove x = Check.with(".l4.", "10.;10.");
        x.set(0, 5);
        x.set(3, 10);
        dueNot("not yet", x, 1, 10);
        dueFoot("comes in", x, 1, 11, 1, 1);
        dueNot("is past", x, 1, 12);
        dueNot("the second, not yet", x, 1, 15);
        dueFoot("the second comes in", x, 1, 16, 1, 1);
        dueNot("the second is past", x, 1, 17);
        x.set(1, 1);
        dueNot("zigzag, not yet", x, 1, 11);
        dueFoot("zigzag, comes in", x, 1, 12, 1, 1);
        dueNot("zigzag, stays", x, 1, 13);
        dueNot("zigzag, is past", x, 1, 14);
        dueFoot("zigzag, the second comes in", x, 1, 17, 1, 1);
    }

    /** "the SUN then": from SUN on. */
    private static void footAroundTheSun() {
        StonesAbove x = Check.with(".l4", "10.;10.;10.");
        x.set(5, 4);
        x.set(4, 2);
        dueFoot("a minute before SUN", x, 1, 1, 1, 1);
        dueFoot("in the minute SUN", x, 1, 2, 1, 2);
        dueFoot("a minute after SUN", x, 1, 3, 1, 2);
        dueFoot("the SUN alone", x, 1, 4, 0, 1);
        dueNot("before both", x, 1, 0);
        dueNot("where it is not LOOSE", x, 0, 2);
    }

    /** "NOT: nothing can". */
    private static void footOfNothing() {
        StonesAbove x = Check.with(".snl1", "");
        for (int p = 0; p < 4; p++) {
            dueNot("nobody", x, p, 0);
            dueNot("nobody", x, p, 1998);
        }
        x.set(4, 0);
        for (int p = 0; p < 3; p++) {
            dueNot("the SUN, not LOOSE", x, p, 0);
        }
        dueFoot("the SUN", x, 3, 0, 0, 1);
        x.set(5, 0);
        dueNot("SUNNED 0", x, 3, 0);
    }

    /** ODDS of 0 send nothing: NOT, and beside the SUN 0 by 1. */
    private static void footOfNoChance() {
        StonesAbove x = Check.with("l3l4", "19.");
        dueNot("ODDS 0", x, 0, 0);
        dueFoot("ODDS 1", x, 1, 1, 1, 1);
        x.set(4, 0);
        dueFoot("ODDS 0 and the SUN", x, 0, 0, 0, 1);
        dueFoot("ODDS 1 and the SUN", x, 1, 1, 1, 2);
        x.set(5, 16);
        dueFoot("ODDS 1 and all the SUN", x, 1, 1, 1, 17);
        x.set(5, 0);
        dueNot("ODDS 0, SUNNED 0", x, 0, 0);
        dueFoot("ODDS 1, SUNNED 0", x, 1, 1, 1, 1);
    }

    /** Six at once by ODDS of 12, the SUN by 16: 72 of 88. */
    private static void footOfTheMost() {
        StonesAbove x = Check.with("l9", "90.;90.;90.;90.;90.;90.");
        x.set(0, 0);
        dueFoot("six at once", x, 0, 0, 1, 1);
        x.set(4, 0);
        x.set(5, 16);
        dueFoot("six and the SUN", x, 0, 0, 9, 11);
        x.set(0, 1);
        dueFoot("one and the SUN", x, 0, 0, 3, 7);
    }

    /** "minute 0 to 1999"; SUN is 1999 at first. */
    private static void footInTheLastMinute() {
        StonesAbove x = Check.with(".l4", "10.");
        dueNot("a minute before", x, 1, 1998);
        dueFoot("the SUN at first", x, 1, 1999, 0, 1);
        dueNot("not LOOSE", x, 0, 1999);
        Check.due("22 minute 2000", x.foot(1, 2000, 0), Check.BAD_LONG);
        Check.due("22 minute -1", x.foot(1, -1, 0), Check.BAD_LONG);
    }

    private static void footOfTheFarthest() {
        StonesAbove x = Check.with("...............l4", "10.;10.;10.;10.;10.;10.");
        x.set(0, 99);
        x.set(1, 1);
        x.set(3, 999);
        dueNot("not yet", x, 15, 1523);
        dueFoot("comes in", x, 15, 1524, 1, 1);
        dueNot("stays", x, 15, 1525);
    }

    /** "FELL, 8 at most". */
    private static void eightFell() {
        StonesAbove x = new StonesAbove();
        for (int i = 1; i <= 8; i++) {
            Check.due("23 the " + i + "-th", x.fell(0, 0, 1), i);
            Check.due("34 count(4)", x.count(4), i);
        }
        Check.due("23 the 9-th", x.fell(0, 0, 1), -4);
        Check.due("34 count(4)", x.count(4), 8);
    }

    /** "WALKER 0 to 5, PART 0 to 15, there or not". */
    private static void fellOfWhatIsNotThere() {
        StonesAbove x = new StonesAbove();
        Check.due("23 of none", x.fell(5, 15, 1), 1);
        Check.due("23 of none, a seventh", x.fell(6, 15, 1), -2);
        Check.due("23 of none, a seventeenth", x.fell(5, 16, 1), -2);
        StonesAbove y = Check.with(".", "10.");
        Check.due("23 of another WALKER", y.fell(1, 0, 1), 1);
        Check.due("23 of another PART", y.fell(0, 1, 1), 2);
    }

    private static void forgotten() {
        StonesAbove x = Check.with(".", "10.");
        Check.due("24 none", x.forget(), 0);
        for (int i = 0; i < 8; i++) {
            x.fell(0, 0, 1);
        }
        Check.due("24 eight", x.forget(), 8);
        Check.due("24 none again", x.forget(), 0);
        Check.due("25 nothing is told any more", x.loose(0), 1);
        Check.due("23 the first again", x.fell(0, 0, 1), 1);
    }

    /** Nothing told: all figures are as likely, the least is 1; so it is where it was told of others alone. */
    private static void looseOfNothingTold() {
        StonesAbove x = Check.with(".snl9", "10.");
        for (int p = 0; p < 4; p++) {
            Check.due("25 loose(" + p + ")", x.loose(p), 1);
        }
        Check.due("25 loose(4)", x.loose(4), -2);
    }

    /** "the figure (1 to 9)". */
    private static void looseIsOneToNine() {
        int[][] told = {{0, 1}, {1, 9}};
        for (String walker : new String[] {"10.", "90.", "19.", "99h"}) {
            for (int[] t : told) {
                StonesAbove x = Check.with("l5", walker);
                for (int i = 0; i < 8; i++) {
                    x.fell(0, 0, t[0]);
                    Check.due("25 " + walker + ", each " + t[0], x.loose(0), t[1]);
                }
            }
        }
    }

    /** "of like ones the least". */
    private static void looseOfLikeOnes() {
        // By 19. ODDS are 0 for 1 to 3.
        StonesAbove x = Check.with("l5", "19.;10.;90.");
        x.fell(0, 0, 0);
        Check.due("25 1, 2, 3 are alike", x.loose(0), 1);
        // f by 10., and 16 less f + 3 by 90.: 6 times 7 and 7 times 6.
        x.forget();
        x.fell(1, 0, 1);
        x.fell(2, 0, 0);
        Check.due("25 6 and 7 are alike", x.loose(0), 6);
        // f + 3 by 90., and 16 less f by 10.: 9 times 10 and 10 times 9.
        x.forget();
        x.fell(1, 0, 0);
        x.fell(2, 0, 1);
        Check.due("25 6 and 7 are alike, the other way", x.loose(0), 6);
        // f - 3 by 19., and 16 less f by 10.: 6 times 7 for 9, less for all below it.
        x.forget();
        x.fell(0, 0, 1);
        x.fell(1, 0, 0);
        Check.due("25 9 alone", x.loose(0), 9);
    }

    /** 16 by 16, eight times, is more than an int holds; so is 15 by 15. */
    private static void looseOfEight() {
        StonesAbove x = Check.with("l5", "19.;10.");
        for (int i = 0; i < 8; i++) {
            x.fell(0, 0, 0);
        }
        Check.due("25 eight times none by 19.", x.loose(0), 1);
        x.forget();
        for (int i = 0; i < 8; i++) {
            x.fell(1, 0, i == 7 ? 1 : 0);
        }
        Check.due("25 once of eight by 10.", x.loose(0), 2);
        x.forget();
        for (int i = 0; i < 8; i++) {
            x.fell(1, 0, i % 2);
        }
        Check.due("25 four of eight by 10.", x.loose(0), 8);
    }

    /** "of WALKERS that there are; others aside". */
    private static void looseOfWalkersThatThereAre() {
        StonesAbove x = Check.with("l5", "10.;10.;10.;10.;10.;10.");
        x.fell(5, 0, 1);
        Check.due("25 six", x.loose(0), 9);
        for (int i = 0; i < 4; i++) {
            x.undo(1);
        }
        Check.due("25 five", x.loose(0), 1);
        x.wipe(1);
        Check.due("25 none", x.loose(0), 1);
        Check.type(x, 1, "10.;10.;10.;10.;10.;19.");
        Check.due("25 six again", x.loose(0), 9);
    }

    private static void looseOfThatPartAlone() {
        StonesAbove x = Check.with("................", "10.");
        x.fell(0, 0, 1);
        x.fell(0, 15, 1);
        for (int p = 0; p < 16; p++) {
            Check.due("25 loose(" + p + ")", x.loose(p), p == 0 || p == 15 ? 9 : 1);
        }
        Check.due("25 loose(16)", x.loose(16), -2);
        x.undo(0);
        Check.due("25 a PART that is no more", x.loose(15), -2);
        x.type(0, 'n');
        Check.due("25 a PART that is there again", x.loose(15), 9);
    }

    private static StonesAbove sheetOf(int form, int... items) {
        StonesAbove x = Check.with("................", "10.;10.;10.;10.;10.;10.");
        x.sheet(0, form, items.length);
        for (int i = 0; i < items.length; i++) {
            x.lay(0, form, i, items[i]);
        }
        return x;
    }

    private static void dueRead(String told, StonesAbove x, int due) {
        Check.due("26 " + told, x.read(0), due);
        Check.due("26 " + told + ": count(4)", x.count(4), due);
    }

    /** "three for each, as many as are whole". */
    private static void readAsManyAsAreWhole() {
        for (int n = 0; n <= 24; n++) {
            dueRead(n + " items", sheetOf(2, new int[n]), n / 3);
        }
        StonesAbove x = sheetOf(0, 5, 15, 1, 0, 0);
        dueRead("the last is not whole", x, 1);
        Check.due("26 what was told", x.loose(15), 9);
        Check.due("26 what was not", x.loose(0), 1);
    }

    /** "as long as each may be": the first that may not ends it, the next ones too. */
    private static void readAsLongAsEachMayBe() {
        for (int form = 0; form < 3; form++) {
            int[] most = {5, 15, 1};
            for (int at = 0; at < 3; at++) {
                for (int v : new int[] {-1, most[at] + 1, 127, -128}) {
                    for (int which = 0; which < 3; which++) {
                        int[] items = {5, 15, 1, 0, 0, 0, 5, 15, 0};
                        items[3 * which + at] = v;
                        dueRead("item " + (3 * which + at) + " is " + v, sheetOf(form, items), which);
                    }
                }
                for (int v : new int[] {0, most[at]}) {
                    int[] items = {0, 0, 0, 5, 15, 1};
                    items[at] = v;
                    dueRead("item " + at + " is " + v, sheetOf(form, items), 2);
                }
            }
        }
        dueRead("the least int", sheetOf(2, Edges.LEAST, 0, 0), 0);
        dueRead("the most int", sheetOf(2, 0, Edges.MOST, 0), 0);
        dueRead("2 to the 16th, which a short would not hold", sheetOf(2, 65536, 0, 0), 0);
        dueRead("2 to the 8th, which a byte would not hold", sheetOf(1, 256, 0, 0), 0);
    }

    /** FULL is no refusal here: it takes what may be. */
    private static void readTillFull() {
        for (int told = 0; told <= 8; told++) {
            StonesAbove x = sheetOf(2, new int[60]);
            for (int i = 0; i < told; i++) {
                x.fell(5, 5, 1);
            }
            Check.due("26 behind " + told, x.read(0), 8 - told);
            Check.due("26 behind " + told + ": count(4)", x.count(4), 8);
            Check.due("26 again", x.read(0), 0);
            Check.due("26 no FINDING", x.count(8), 0);
        }
    }

    private static void readOfEachForm() {
        for (int form = 0; form < 3; form++) {
            StonesAbove x = sheetOf(form, 5, 15, 1, 4, 14, 1);
            dueRead("FORM " + form, x, 2);
            Check.due("26 FORM " + form + ": loose(15)", x.loose(15), 9);
            Check.due("26 FORM " + form + ": loose(14)", x.loose(14), 9);
            Check.due("26 FORM " + form + ": loose(13)", x.loose(13), 1);
        }
    }

    private static void readLeavesTheSheet() {
        StonesAbove x = sheetOf(1, 5, 15, 1, 9);
        x.read(0);
        int[] items = {5, 15, 1, 9};
        for (int i = 0; i < 4; i++) {
            Check.due("26 item " + i, x.get(0, 1, i), items[i]);
        }
        Check.due("26 how many items", x.lose(0), 4);
    }
}
