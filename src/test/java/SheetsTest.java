/** Promises 28 to 34: SHEETS, FINDINGS, counts. */
public final class SheetsTest {
    private static final int LEAST = Integer.MIN_VALUE;

    public static void main(String[] args) {
        making();
        losing();
        laying();
        layingRefused();
        getting();
        copying();
        copyingOverItself();
        copyingRefused();
        writing();
        findings();
        counts();
        Check.end();
    }

    private static void making() {
        StonesAbove x = new StonesAbove();
        Check.due("sheet(3, 2, 60)", x.sheet(3, 2, 60), 60);
        Check.due("sheet(0, 0, 0)", x.sheet(0, 0, 0), 0);
        Check.due("an empty one is not lost", x.lose(0), 0);
        x.lay(3, 2, 59, 7);
        Check.due("61 items", x.sheet(3, 2, 61), -2);
        Check.due("SIZE", x.sheet(3, 2, -1), -15);
        Check.due("SIZE, least", x.sheet(3, 2, LEAST), -15);
        Check.due("a refusal changes nothing", x.get(3, 2, 59), 7);
        Check.due("a new row", x.sheet(3, 2, 60), 60);
        Check.due("its items are 0", x.get(3, 2, 59), 0);
        Check.due("another FORM", x.sheet(3, 0, 5), 5);
        Check.due("as that FORM", x.get(3, 0, 4), 0);
        int[][] bad = {{4, 0, 1}, {-1, 0, 1}, {0, 3, 1}, {0, -1, 1}, {4, 0, -1}, {0, 3, -1}};
        for (int[] b : bad) {
            Check.due("sheet" + java.util.Arrays.toString(b), x.sheet(b[0], b[1], b[2]), -2);
        }
    }

    private static void losing() {
        StonesAbove x = new StonesAbove();
        x.sheet(1, 1, 9);
        Check.due("lose(1)", x.lose(1), 9);
        Check.due("lose(1) again", x.lose(1), -11);
        Check.due("lose(4)", x.lose(4), -2);
        Check.due("lose(-1)", x.lose(-1), -2);
    }

    private static void laying() {
        StonesAbove x = new StonesAbove();
        for (int form = 0; form < 3; form++) {
            x.sheet(form, form, 3);
        }
        int[] values = {0, 1, -1, 127, 128, 255, 256, 32767, 32768, 65535, -129, LEAST, Integer.MAX_VALUE};
        for (int v : values) {
            for (int form = 0; form < 3; form++) {
                Check.due("lay " + v, x.lay(form, form, 2, v), 1);
                Check.due("get " + v, x.get(form, form, 2), form == 0 ? (byte) v : form == 1 ? (short) v : v);
            }
        }
        Check.due("its neighbour", x.get(0, 0, 1), 0);
    }

    private static void layingRefused() {
        StonesAbove x = new StonesAbove();
        x.sheet(1, 1, 3);
        Check.due("lay(4, ..)", x.lay(4, 1, 0, 1), -2);
        Check.due("lay(-1, ..)", x.lay(-1, 1, 0, 1), -2);
        Check.due("lay, form 3", x.lay(1, 3, 0, 1), -2);
        Check.due("lay, form -1, lost", x.lay(0, -1, 0, 1), -2);
        Check.due("lay, lost", x.lay(0, 0, 9, 1), -11);
        Check.due("lay, cast before index", x.lay(1, 2, 9, 1), -13);
        Check.due("lay, index", x.lay(1, 1, 3, 1), -12);
        Check.due("lay, index below", x.lay(1, 1, -1, 1), -12);
        Check.due("lay, index least", x.lay(1, 1, LEAST, 1), -12);
        for (int i = 0; i < 3; i++) {
            Check.due("nothing was laid", x.get(1, 1, i), 0);
        }
    }

    private static void getting() {
        StonesAbove x = new StonesAbove();
        x.sheet(1, 1, 3);
        x.sheet(2, 2, 3);
        Check.due("get, BAD", x.get(4, 0, 0), LEAST);
        Check.due("get, BAD form", x.get(1, 3, 0), LEAST);
        Check.due("BAD is no finding", x.count(8), 0);
        Check.due("get, lost", x.get(0, 0, 0), LEAST);
        Check.due("NULL", x.count(8), 1);
        Check.due("get, index", x.get(1, 1, 3), LEAST);
        Check.due("INDEX", x.count(8), 2);
        Check.due("get, cast", x.get(1, 2, 3), LEAST);
        Check.due("CAST", x.count(8), 3);
        x.lay(2, 2, 0, LEAST);
        Check.due("the least int itself", x.get(2, 2, 0), LEAST);
        Check.due("is no finding", x.count(8), 3);
    }

    private static void copying() {
        StonesAbove x = numbered(0, 2, 6);
        x.sheet(1, 2, 4);
        Check.due("copy", x.copy(0, 3, 1, 1, 3), 1);
        dueItems(x, 1, 2, 0, 4, 5, 6);
        dueItems(x, 0, 2, 1, 2, 3, 4, 5, 6);
        Check.due("copy none", x.copy(0, 6, 1, 4, 0), 1);
        dueItems(x, 1, 2, 0, 4, 5, 6);
    }

    private static void copyingOverItself() {
        StonesAbove up = numbered(2, 1, 6);
        Check.due("copy up", up.copy(2, 0, 2, 2, 4), 1);
        dueItems(up, 2, 1, 1, 2, 1, 2, 3, 4);
        StonesAbove down = numbered(2, 0, 6);
        Check.due("copy down", down.copy(2, 1, 2, 0, 5), 1);
        dueItems(down, 2, 0, 2, 3, 4, 5, 6, 6);
    }

    private static void copyingRefused() {
        StonesAbove x = numbered(0, 2, 6);
        x.sheet(1, 2, 4);
        x.sheet(2, 1, 4);
        int most = Integer.MAX_VALUE;
        int[][] calls = {
            {4, 0, 0, 0, 1, -2}, {0, 0, 4, 0, 1, -2}, {-1, 0, 3, 0, 1, -2}, {3, 0, 2, 0, 1, -11}, {0, 0, 3, 0, 99, -11},
            {0, 0, 2, 0, 99, -14}, {0, 0, 2, 0, 0, -14}, {0, -1, 1, 0, 1, -12}, {0, 0, 1, -1, 1, -12}, {0, 0, 1, 0, -1, -12},
            {0, 0, 1, 0, 5, -12}, {0, 4, 1, 0, 3, -12}, {0, 0, 1, 2, 3, -12}, {0, 7, 1, 0, 0, -12}, {0, 0, 1, 5, 0, -12},
            {0, most, 1, 0, most, -12}, {0, 1, 1, 0, most, -12}, {0, 0, 1, most, 1, -12}, {0, LEAST, 1, 0, LEAST, -12}};
        for (int[] c : calls) {
            Check.due("copy" + java.util.Arrays.toString(c), x.copy(c[0], c[1], c[2], c[3], c[4]), c[5]);
        }
        dueItems(x, 1, 2, 0, 0, 0, 0);
        dueItems(x, 0, 2, 1, 2, 3, 4, 5, 6);
    }

    private static void writing() {
        StonesAbove x = Check.with("..", "11.;11.;11.");
        for (int form = 0; form < 3; form++) {
            x.sheet(form, form, 5);
            x.lay(form, form, 3, 9);
            Check.due("write", x.write(2, form), 3);
            dueItems(x, form, form, -1, 1, 0, 9, 0);
        }
        x.sheet(0, 0, 2);
        Check.due("write, fewer items", x.write(1, 0), 2);
        dueItems(x, 0, 0, 1, 0);
        Check.due("write, lost", x.write(0, 3), -11);
        Check.due("write, minute 1999", x.write(1999, 0), 2);
        dueItems(x, 0, 0, -1, -1);
        Check.due("write, minute 2000", x.write(2000, 3), -2);
        Check.due("write, minute -1", x.write(-1, 0), -2);
        Check.due("write, sheet 4", x.write(0, 4), -2);
        Check.due("write, sheet -1", x.write(0, -1), -2);
        x.wipe(1);
        Check.due("write, no walkers", x.write(0, 0), 0);
    }

    private static void findings() {
        StonesAbove x = new StonesAbove();
        x.sheet(0, 0, 3);
        x.sheet(1, 1, 3);
        long before = x.digest();
        x.lay(0, 1, 0, 0);
        Check.due("CAST", x.count(8), 3);
        x.copy(0, 0, 1, 0, 1);
        Check.due("STORE", x.count(8), 4);
        x.sheet(2, 0, -1);
        Check.due("SIZE", x.count(8), 5);
        x.read(2);
        Check.due("NULL", x.count(8), 1);
        x.copy(0, 0, 0, 0, 4);
        Check.due("INDEX", x.count(8), 2);
        x.write(0, 3);
        Check.due("NULL by write", x.count(8), 1);
        x.lay(0, 0, 0, 1);
        x.type(0, 999);
        Check.due("what is well, and BAD, leave it", x.count(8), 1);
        Check.due("digest() is without it", x.digest(), before);
    }

    private static void counts() {
        StonesAbove x = Check.with(".l3l9", "11h;11.;12h");
        x.fell(0, 0, 0);
        x.set(0, 17);
        x.lose(0);
        int[] want = {3, 3, 5, 11, 1, 12, 17, 2, 1};
        for (int what = 0; what < want.length; what++) {
            Check.due("count(" + what + ")", x.count(what), want[what]);
        }
        Check.due("count(9)", x.count(9), -2);
        Check.due("count(-1)", x.count(-1), -2);
        x.type(0, 'x');
        Check.due("PARTS of a faulty text", x.count(0), 0);
        Check.due("its bytes", x.count(2), 6);
    }

    /** A sheet with items 1 to n. */
    private static StonesAbove numbered(int s, int form, int n) {
        StonesAbove x = new StonesAbove();
        x.sheet(s, form, n);
        for (int i = 0; i < n; i++) {
            x.lay(s, form, i, i + 1);
        }
        return x;
    }

    private static void dueItems(StonesAbove x, int s, int form, int... items) {
        for (int i = 0; i < items.length; i++) {
            Check.due("item " + i + " of sheet " + s, x.get(s, form, i), items[i]);
        }
    }
}
