/** The boundary cases of promises 28 to 33: no items and sixty, the lowest bits, what is LOST, copies over themselves, fewer items than WALKERS. */
public final class SheetEdgesTest {
    private static final int LEAST = Edges.LEAST;
    private static final int MOST = Edges.MOST;

    public static void main(String[] args) {
        fourSheetsThreeForms();
        noneToSixtyItems();
        itemsAreNoneAtFirst();
        aRowAnew();
        sizeBelowNone();
        lostAndLostAgain();
        lowestBits();
        oneItemAlone();
        asAnotherForm();
        copiesOfWholeRows();
        copiesOfNone();
        copiesOverThemselves();
        copiesThatWouldWrap();
        copiesRefusedCopyNothing();
        writesAsManyAsThereAre();
        writesOfEachForm();
        writesInTheFirstAndLastMinute();
        Check.end();
    }

    /** "SHEETS 0 .. 3 are LOST (at first) or a row of a FORM: 0 bytes, 1 shorts, 2 ints". */
    private static void fourSheetsThreeForms() {
        for (int s = 0; s < 4; s++) {
            for (int form = 0; form < 3; form++) {
                StonesAbove x = new StonesAbove();
                Check.due("28 a SHEET", x.sheet(s, form, 2), 2);
                Check.due("30 its last item", x.lay(s, form, 1, 7), 1);
                for (int other = 0; other < 4; other++) {
                    if (other != s) {
                        Check.due("29 the others are LOST still", x.lose(other), -11);
                    }
                }
                Check.due("31 its last item", x.get(s, form, 1), 7);
                Check.due("29 how many it had", x.lose(s), 2);
            }
        }
    }

    /** "of 0 to 60 items". */
    private static void noneToSixtyItems() {
        for (int form = 0; form < 3; form++) {
            for (int n : new int[] {0, 1, 59, 60}) {
                StonesAbove x = new StonesAbove();
                Check.due("28 of " + n, x.sheet(0, form, n), n);
                Check.due("30 item " + n, x.lay(0, form, n, 1), -12);
                Check.due("31 item " + n, x.get(0, form, n), LEAST);
                if (n > 0) {
                    Check.due("30 the last item", x.lay(0, form, n - 1, 5), 1);
                    Check.due("31 the last item", x.get(0, form, n - 1), 5);
                    Check.due("30 the first item", x.lay(0, form, 0, 6), 1);
                    Check.due("31 the first item", x.get(0, form, 0), 6);
                }
                Check.due("29 how many it had", x.lose(0), n);
            }
            for (int n : new int[] {61, 62, 1000, MOST - 1, MOST}) {
                StonesAbove x = new StonesAbove();
                Check.due("28 of " + n, x.sheet(0, form, n), -2);
                Check.due("28 of " + n + ": it is LOST still", x.lose(0), -11);
            }
        }
    }

    /** "(0 at first)". */
    private static void itemsAreNoneAtFirst() {
        for (int form = 0; form < 3; form++) {
            StonesAbove x = new StonesAbove();
            x.sheet(3, form, 60);
            for (int i = 0; i < 60; i++) {
                Check.due("31 item " + i, x.get(3, form, i), 0);
            }
        }
    }

    /** "A SHEET is a new row": whatever it was, of 0 again, also when it grows beyond what it had. */
    private static void aRowAnew() {
        StonesAbove x = new StonesAbove();
        x.sheet(1, 2, 60);
        for (int i = 0; i < 60; i++) {
            x.lay(1, 2, i, -1);
        }
        Check.due("28 fewer", x.sheet(1, 2, 2), 2);
        Check.due("31 item 1", x.get(1, 2, 1), 0);
        Check.due("31 item 2", x.get(1, 2, 2), LEAST);
        Check.due("28 more, of another FORM", x.sheet(1, 0, 60), 60);
        for (int i = 0; i < 60; i++) {
            Check.due("31 item " + i, x.get(1, 0, i), 0);
        }
        x.lay(1, 0, 59, 9);
        x.lose(1);
        x.sheet(1, 0, 60);
        Check.due("31 lost between", x.get(1, 0, 59), 0);
    }

    /** "SIZE: below 0": the SHEET is as it was. */
    private static void sizeBelowNone() {
        for (int n : new int[] {-1, -60, -61, LEAST + 1, LEAST}) {
            StonesAbove x = new StonesAbove();
            Check.due("28 of " + n + ", LOST", x.sheet(0, 0, n), -15);
            Check.due("34 SIZE", x.count(8), 5);
            Check.due("29 it is LOST still", x.lose(0), -11);
            x.sheet(0, 1, 3);
            x.lay(0, 1, 2, 8);
            Check.due("28 of " + n, x.sheet(0, 2, n), -15);
            Check.due("31 it is as it was", x.get(0, 1, 2), 8);
            Check.due("29 it is as long as it was", x.lose(0), 3);
        }
    }

    private static void lostAndLostAgain() {
        StonesAbove x = new StonesAbove();
        Check.due("29 at first", x.lose(0), -11);
        x.sheet(0, 0, 0);
        Check.due("29 one of no items is not LOST", x.lose(0), 0);
        Check.due("29 again", x.lose(0), -11);
        Check.due("30 lay", x.lay(0, 0, 0, 0), -11);
        Check.due("31 get", x.get(0, 0, 0), LEAST);
        Check.due("32 copy", x.copy(0, 0, 0, 0, 0), -11);
        Check.due("33 write", x.write(0, 0), -11);
        Check.due("26 read", x.read(0), -11);
        Check.due("34 NULL", x.count(8), 1);
        Check.due("28 a new one", x.sheet(0, 2, 1), 1);
        Check.due("30 lay then", x.lay(0, 2, 0, 4), 1);
    }

    /** "becomes v (the lowest bits that it has)". */
    private static void lowestBits() {
        int[][] bytes = {{127, 127}, {128, -128}, {-128, -128}, {-129, 127}, {255, -1}, {256, 0}, {257, 1}, {MOST, -1}, {LEAST, 0}, {LEAST + 128, -128}};
        int[][] shorts = {{32767, 32767}, {32768, -32768}, {-32768, -32768}, {-32769, 32767}, {65535, -1}, {65536, 0}, {65537, 1}, {128, 128}, {255, 255}, {MOST, -1}, {LEAST, 0}};
        int[][] ints = {{MOST, MOST}, {LEAST, LEAST}, {-1, -1}, {0, 0}, {65536, 65536}, {32768, 32768}};
        int[][][] told = {bytes, shorts, ints};
        for (int form = 0; form < 3; form++) {
            StonesAbove x = new StonesAbove();
            x.sheet(0, form, 1);
            for (int[] t : told[form]) {
                Check.due("30 lay " + t[0], x.lay(0, form, 0, t[0]), 1);
                Check.due("31 get, of FORM " + form + ", " + t[0], x.get(0, form, 0), t[1]);
            }
            Check.due("34 no FINDING, the least int too", x.count(8), 0);
        }
    }

    private static void oneItemAlone() {
        StonesAbove x = new StonesAbove();
        x.sheet(0, 0, 60);
        x.lay(0, 0, 30, -1);
        for (int i = 0; i < 60; i++) {
            Check.due("31 item " + i, x.get(0, 0, i), i == 30 ? -1 : 0);
        }
    }

    /** "CAST: it has another FORM". */
    private static void asAnotherForm() {
        for (int form = 0; form < 3; form++) {
            for (int as = 0; as < 3; as++) {
                StonesAbove x = new StonesAbove();
                x.sheet(0, form, 1);
                Check.due("30 lay, " + form + " as " + as, x.lay(0, as, 0, 3), form == as ? 1 : -13);
                Check.due("31 get, " + form + " as " + as, x.get(0, as, 0), form == as ? 3 : LEAST);
                Check.due("34 count(8)", x.count(8), form == as ? 0 : 3);
                Check.due("31 what it is", x.get(0, form, 0), form == as ? 3 : 0);
            }
        }
    }

    private static StonesAbove numbered(int form, int... sizes) {
        StonesAbove x = new StonesAbove();
        for (int s = 0; s < sizes.length; s++) {
            x.sheet(s, form, sizes[s]);
            for (int i = 0; i < sizes[s]; i++) {
                x.lay(s, form, i, 10 * s + i + 1);
            }
        }
        return x;
    }

    private static void dueItems(String told, StonesAbove x, int s, int form, int... items) {
        for (int i = 0; i < items.length; i++) {
            Check.due(told + ", item " + i + " of SHEET " + s, x.get(s, form, i), items[i]);
        }
        Check.due(told + ", how many items", x.lose(s), items.length);
    }

    private static void copiesOfWholeRows() {
        for (int form = 0; form < 3; form++) {
            StonesAbove x = numbered(form, 60, 60);
            Check.due("32 all sixty", x.copy(0, 0, 1, 0, 60), 1);
            for (int i = 0; i < 60; i++) {
                Check.due("31 item " + i, x.get(1, form, i), x.get(0, form, i));
            }
            Check.due("32 sixty-one", x.copy(0, 0, 1, 0, 61), -12);
            StonesAbove y = numbered(form, 3, 5);
            Check.due("32 all three", y.copy(0, 0, 1, 2, 3), 1);
            dueItems("32 three into five", y, 1, form, 11, 12, 1, 2, 3);
            dueItems("32 they stay", y, 0, form, 1, 2, 3);
        }
    }

    /** None may be copied from and to any place that there is, and from behind the last item. */
    private static void copiesOfNone() {
        StonesAbove x = numbered(2, 3, 5, 0);
        Check.due("32 none, at the beginning", x.copy(0, 0, 1, 0, 0), 1);
        Check.due("32 none, behind the last items", x.copy(0, 3, 1, 5, 0), 1);
        Check.due("32 none, from farther", x.copy(0, 4, 1, 5, 0), -12);
        Check.due("32 none, to farther", x.copy(0, 3, 1, 6, 0), -12);
        Check.due("32 none, from below", x.copy(0, -1, 1, 0, 0), -12);
        Check.due("32 none, to below", x.copy(0, 0, 1, -1, 0), -12);
        Check.due("32 none, of no items", x.copy(2, 0, 2, 0, 0), 1);
        Check.due("32 one, of no items", x.copy(2, 0, 0, 0, 1), -12);
        Check.due("32 one, to no items", x.copy(0, 0, 2, 0, 1), -12);
        dueItems("32 nothing came", x, 1, 2, 11, 12, 13, 14, 15);
    }

    /** "perhaps s, as they were". */
    private static void copiesOverThemselves() {
        for (int form = 0; form < 3; form++) {
            StonesAbove up = numbered(form, 5);
            Check.due("32 up", up.copy(0, 0, 0, 1, 4), 1);
            dueItems("32 up", up, 0, form, 1, 1, 2, 3, 4);
            StonesAbove down = numbered(form, 5);
            Check.due("32 down", down.copy(0, 1, 0, 0, 4), 1);
            dueItems("32 down", down, 0, form, 2, 3, 4, 5, 5);
            StonesAbove same = numbered(form, 5);
            Check.due("32 onto itself", same.copy(0, 0, 0, 0, 5), 1);
            dueItems("32 onto itself", same, 0, form, 1, 2, 3, 4, 5);
        }
    }

    /** Sums of place and number beyond the most int are not so many either. */
    private static void copiesThatWouldWrap() {
        int[][] calls = {
            {MOST, 0, 1}, {0, MOST, 1}, {MOST, MOST, MOST}, {1, 0, MOST}, {0, 1, MOST}, {MOST, 0, MOST}, {1, 1, MOST},
            {MOST, 0, LEAST}, {LEAST, 0, LEAST}, {0, LEAST, LEAST}, {0, 0, LEAST}, {LEAST, LEAST, MOST}, {MOST, MOST, 2}};
        for (int[] c : calls) {
            StonesAbove x = numbered(1, 4, 4);
            Check.due("32 copy" + java.util.Arrays.toString(c), x.copy(0, c[0], 1, c[1], c[2]), -12);
            Check.due("32 INDEX", x.count(8), 2);
            dueItems("32 nothing came", x, 1, 1, 11, 12, 13, 14);
        }
    }

    private static void copiesRefusedCopyNothing() {
        StonesAbove x = numbered(2, 4, 3);
        Check.due("32 four into three", x.copy(0, 0, 1, 0, 4), -12);
        Check.due("32 three from the second of four", x.copy(0, 2, 1, 0, 3), -12);
        Check.due("32 two to the last of three", x.copy(0, 0, 1, 2, 2), -12);
        dueItems("32 nothing came", x, 1, 2, 11, 12, 13);
        dueItems("32 nothing went", x, 0, 2, 1, 2, 3, 4);
    }

    /** "as many as there are items and WALKERS". */
    private static void writesAsManyAsThereAre() {
        String[] walkers = {"", "11.", "11.;11.", "11.;11.;11.", "11.;11.;11.;11.", "11.;11.;11.;11.;11.", "11.;11.;11.;11.;11.;11."};
        for (int w = 0; w <= 6; w++) {
            for (int n : new int[] {0, 1, 5, 6, 7, 60}) {
                StonesAbove x = Check.with("......", walkers[w]);
                x.sheet(2, 2, n);
                for (int i = 0; i < n; i++) {
                    x.lay(2, 2, i, 99);
                }
                Check.due("33 " + w + " to " + n, x.write(5, 2), Math.min(w, n));
                for (int i = 0; i < n; i++) {
                    Check.due("33 " + w + " to " + n + ", item " + i, x.get(2, 2, i), i < w ? 5 - i : 99);
                }
                Check.due("33 as many items as before", x.lose(2), n);
            }
        }
    }

    /** NONE is -1 in each FORM. */
    private static void writesOfEachForm() {
        for (int form = 0; form < 3; form++) {
            StonesAbove x = Check.with("..", "11.;11.;11.;11.");
            x.sheet(0, form, 5);
            Check.due("33 FORM " + form, x.write(2, 0), 4);
            dueItems("33 FORM " + form, x, 0, form, -1, 1, 0, -1, 0);
        }
    }

    private static void writesInTheFirstAndLastMinute() {
        StonesAbove x = Check.with("..", "11.;11.");
        x.sheet(0, 1, 2);
        Check.due("33 minute 0", x.write(0, 0), 2);
        Check.due("33 the first is in", x.get(0, 1, 0), 0);
        Check.due("33 the second is not", x.get(0, 1, 1), -1);
        Check.due("33 minute 1999", x.write(1999, 0), 2);
        Check.due("33 minute 2000", x.write(2000, 0), -2);
        Check.due("33 minute -1", x.write(-1, 0), -2);
        dueItems("33 all are out", x, 0, 1, -1, -1);
        StonesAbove faulty = Check.with("l", "11.");
        faulty.sheet(0, 0, 1);
        Check.due("33 no PARTS", faulty.write(0, 0), 1);
        Check.due("33 it is nowhere", faulty.get(0, 0, 0), -1);
    }
}
