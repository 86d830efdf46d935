/**
 * Promises 2 to 34, each argument of each call: the last numbers that are taken with what is due for
 * them, and the first that are refused, the least and the most int as well; a refusal changes nothing.
 */
public final class BoundsTest {
    private static final long BAD_LONG = Check.BAD_LONG;
    private static final long NOT_LONG = Check.NOT_LONG;

    public static void main(String[] args) {
        texts();
        partsAndWalkers();
        settings();
        placesAndStones();
        harms();
        searches();
        others();
        feet();
        tellings();
        mornings();
        sheets();
        items();
        copies();
        writesAndCounts();
        Check.end();
    }

    /**
     * Eight PARTS and three WALKERS, some bytes and items, so that every bound has both its sides.
     * SHEETS 0 and 3 are ints of 4 and 3 items, 1 is shorts, 2 is bytes; two were told of by FELL.
     */
    private static StonesAbove ready() {
        StonesAbove x = Check.with(".l4ns.l9.l2", "90.;55h;19.");
        x.set(2, 3);
        x.set(4, 5);
        x.fell(0, 1, 1);
        x.fell(2, 7, 0);
        int[] forms = {2, 1, 0, 2};
        int[] items = {4, 5, 6, 3};
        for (int s = 0; s < 4; s++) {
            x.sheet(s, forms[s], items[s]);
            x.lay(s, forms[s], 1, s + 2);
            x.lay(s, forms[s], 2, 1);
        }
        return x;
    }

    private static void ints(String told, Edges.Call call, Edges.End least, Edges.End most) {
        Edges.bounds(told, BoundsTest::ready, call, least, most, Edges.BAD, Edges.BAD);
    }

    private static void longs(String told, Edges.Call call, Edges.End least, Edges.End most) {
        Edges.bounds(told, BoundsTest::ready, call, least, most, BAD_LONG, BAD_LONG);
    }

    private static Edges.End at(int v, long due) {
        return Edges.at(v, due);
    }

    private static void texts() {
        ints("2 type: text", (x, v) -> x.type(v, '.'), at(0, 12), at(1, 12));
        ints("2 type: byte, text 0", (x, v) -> x.type(0, v), at(0, 12), at(255, 12));
        ints("2 type: byte, text 1", (x, v) -> x.type(1, v), at(0, 12), at(255, 12));
        ints("3 wipe", (x, v) -> x.wipe(v), at(0, 11), at(1, 11));
        ints("4 undo", (x, v) -> x.undo(v), at(0, 10), at(1, 10));
        ints("5 fault", (x, v) -> x.fault(v), at(0, -1), at(1, -1));
    }

    private static void partsAndWalkers() {
        ints("6 part: PART", (x, v) -> x.part(v, 0), at(0, 0), at(7, 3));
        ints("6 part: what", (x, v) -> x.part(5, v), at(0, 3), at(1, 9));
        ints("7 walker: WALKER", (x, v) -> x.walker(v, 0), at(0, 9), at(2, 1));
        ints("7 walker: what", (x, v) -> x.walker(1, v), at(0, 5), at(2, 1));
    }

    private static void settings() {
        ints("8 set: what", (x, v) -> x.set(v, 0), at(0, 1), at(5, 1));
        ints("8 set: GAP", (x, v) -> x.set(0, v), at(0, 1), at(99, 1));
        ints("8 set: ZIGZAG", (x, v) -> x.set(1, v), at(0, 0), at(1, 0));
        ints("8 set: LAG", (x, v) -> x.set(2, v), at(0, 3), at(16, 3));
        ints("8 set: BEGIN", (x, v) -> x.set(3, v), at(0, 0), at(999, 0));
        ints("8 set: SUN", (x, v) -> x.set(4, v), at(0, 5), at(1999, 5));
        ints("8 set: SUNNED", (x, v) -> x.set(5, v), at(0, 1), at(16, 1));
    }

    private static void placesAndStones() {
        ints("9 place: WALKER", (x, v) -> x.place(v, 5), at(0, 5), at(2, 3));
        ints("9 place: minute", (x, v) -> x.place(0, v), at(0, 0), at(1999, -1));
        ints("10 treads: WALKER", (x, v) -> x.treads(v, 1), at(0, 7), at(2, 1));
        ints("10 treads: PART", (x, v) -> x.treads(0, v), at(0, 0), at(7, 5));
        ints("11 hits: from", (x, v) -> x.hits(v, 0, 0), at(0, 0), at(7, 3));
        ints("11 hits: to", (x, v) -> x.hits(7, v, 0), at(0, 3), at(7, 0));
        ints("11 hits: helmet", (x, v) -> x.hits(5, 2, v), at(0, 6), at(1, 3));
    }

    /** By WALKERS 0 and 1 to WALKER 2: 10 and 15 of 256; by the SUN to them: 3, 2, 7. */
    private static void harms() {
        longs("12 harm: by", (x, v) -> x.harm(v, 2, 0), at(-1, 7), at(1, 15));
        longs("12 harm: to", (x, v) -> x.harm(-1, v, 0), at(0, 3), at(2, 7));
        longs("12 harm: what", (x, v) -> x.harm(0, 2, v), at(0, 5), at(1, 128));
        longs("13 all: WALKER", (x, v) -> x.all(v, 0), at(-1, 37), at(2, 1));
        longs("13 all: what", (x, v) -> x.all(2, v), at(0, 1), at(1, 8));
        longs("13 all: what, of all together", (x, v) -> x.all(-1, v), at(0, 37), at(1, 256));
    }

    private static void searches() {
        longs("16 curve: GAP", (x, v) -> x.curve(v, 0), at(0, 7), at(99, 43));
        longs("16 curve: what", (x, v) -> x.curve(0, v), at(0, 7), at(1, 256));
        ints("17 gap", (x, v) -> x.gap(v), at(0, 0), at(99, 0));
        ints("18 order", (x, v) -> x.order(v), at(0, 2), at(5, -1));
        longs("19 ordered", (x, v) -> x.ordered(v), at(0, 19), at(1, 256));
        longs("20 helmets: how many", (x, v) -> x.helmets(v, 0), at(0, 0), at(3, 7));
        longs("20 helmets: what", (x, v) -> x.helmets(1, v), at(0, 2), at(2, 256));
    }

    /** OTHERS are out above after 8 minutes; up to then a stone of theirs still hits someone. */
    private static void others() {
        longs("21 waits: n", (x, v) -> x.waits(v, 0, 999, 0), at(1, 8), at(6, 8));
        longs("21 waits: ahead", (x, v) -> x.waits(3, v, 999, 0), at(0, 8), at(99, 0));
        longs("21 waits: COST", (x, v) -> x.waits(3, 2, v, 0), at(0, 0), at(999, 6));
        longs("21 waits: what", (x, v) -> x.waits(3, 2, 90, v), at(0, 6), at(2, 1));
    }

    private static void feet() {
        longs("22 foot: PART", (x, v) -> x.foot(v, 7, 1), at(0, NOT_LONG), at(7, 6));
        longs("22 foot: minute", (x, v) -> x.foot(5, v, 0), at(0, NOT_LONG), at(1999, 0));
        longs("22 foot: what", (x, v) -> x.foot(5, 5, v), at(0, 12), at(1, 13));
    }

    private static void tellings() {
        ints("23 fell: WALKER", (x, v) -> x.fell(v, 0, 0), at(0, 3), at(5, 3));
        ints("23 fell: PART", (x, v) -> x.fell(0, v, 0), at(0, 3), at(15, 3));
        ints("23 fell: there or not", (x, v) -> x.fell(0, 0, v), at(0, 3), at(1, 3));
        ints("25 loose", (x, v) -> x.loose(v), at(0, 1), at(7, 1));
        ints("26 read", (x, v) -> x.read(v), at(0, 1), at(3, 1));
    }

    /** No int is refused as a SEED; in Plain's reading it answers the same. */
    private static void mornings() {
        Plain y = new Plain();
        type(y, 0, "n..l9.nl9l9.l5");
        type(y, 1, "90.;90.;72.;80h;90.;91.");
        for (int seed : new int[] {Edges.LEAST, Edges.LEAST + 1, -1, 0, 1, Edges.MOST - 1, Edges.MOST}) {
            StonesAbove x = Check.with("n..l9.nl9l9.l5", "90.;90.;72.;80h;90.;91.");
            Check.due("27 morning(" + seed + ")", x.morning(seed), y.morning(seed));
        }
    }

    private static void type(Plain y, int text, String bytes) {
        for (int i = 0; i < bytes.length(); i++) {
            y.type(text, bytes.charAt(i));
        }
    }

    private static void sheets() {
        ints("28 sheet: SHEET", (x, v) -> x.sheet(v, 0, 2), at(0, 2), at(3, 2));
        ints("28 sheet: FORM", (x, v) -> x.sheet(0, v, 2), at(0, 2), at(2, 2));
        for (int form = 0; form < 3; form++) {
            int f = form;
            Edges.bounds("28 sheet: items", BoundsTest::ready, (x, v) -> x.sheet(0, f, v), at(0, 0), at(60, 60), Edges.SIZE, Edges.BAD);
        }
        ints("29 lose", (x, v) -> x.lose(v), at(0, 4), at(3, 3));
    }

    private static void items() {
        ints("30 lay: SHEET", (x, v) -> x.lay(v, 2, 0, 7), at(0, 1), at(3, 1));
        ints("30 lay: FORM", (x, v) -> x.lay(0, v, 0, 7), at(0, Edges.CAST), at(2, 1));
        ints("30 lay: FORM, to bytes", (x, v) -> x.lay(2, v, 0, 7), at(0, 1), at(2, Edges.CAST));
        int[] forms = {2, 1, 0, 2};
        int[] items = {4, 5, 6, 3};
        for (int sheet = 0; sheet < 4; sheet++) {
            int s = sheet;
            Edges.Call lay = (x, v) -> x.lay(s, forms[s], v, 7);
            Edges.bounds("30 lay: item", BoundsTest::ready, lay, at(0, 1), at(items[s] - 1, 1), Edges.INDEX, Edges.INDEX);
            Edges.Call get = (x, v) -> x.get(s, forms[s], v);
            getBounds("31 get: item", get, at(1, s + 2), at(2, 1), -1, items[s], 2);
        }
        getBounds("31 get: SHEET", (x, v) -> x.get(v, 2, 1), at(0, 2), at(3, 5), -1, 4, 0);
        getBounds("31 get: FORM", (x, v) -> x.get(0, v, 1), at(2, 2), at(2, 2), -1, 3, 0);
        Check.due("30 lay: the least int", ready().lay(0, 2, 0, Edges.LEAST), 1);
        Check.due("30 lay: the most int", ready().lay(0, 2, 0, Edges.MOST), 1);
    }

    private static void getBounds(String told, Edges.Call get, Edges.End one, Edges.End other, int below, int above, int finding) {
        Check.due(told + " " + one.v(), get.on(ready(), one.v()), one.due());
        Check.due(told + " " + other.v(), get.on(ready(), other.v()), other.due());
        for (int v : new int[] {below, above, Edges.LEAST, Edges.MOST}) {
            Edges.refusedGet(told + " " + v, BoundsTest::ready, x -> get.on(x, v), finding);
        }
    }

    private static void copies() {
        ints("32 copy: from SHEET", (x, v) -> x.copy(v, 0, 3, 0, 2), at(0, 1), at(3, 1));
        ints("32 copy: to SHEET", (x, v) -> x.copy(0, 0, v, 0, 2), at(0, 1), at(3, 1));
        index("32 copy: from item, one", (x, v) -> x.copy(0, v, 3, 0, 1), 3);
        index("32 copy: from item, three", (x, v) -> x.copy(0, v, 3, 0, 3), 1);
        index("32 copy: from item, none", (x, v) -> x.copy(0, v, 3, 0, 0), 4);
        index("32 copy: to item, one", (x, v) -> x.copy(0, 0, 3, v, 1), 2);
        index("32 copy: to item, three", (x, v) -> x.copy(0, 0, 3, v, 3), 0);
        index("32 copy: to item, none", (x, v) -> x.copy(0, 0, 3, v, 0), 3);
        index("32 copy: how many, to fewer", (x, v) -> x.copy(0, 0, 3, 0, v), 3);
        index("32 copy: how many, from fewer", (x, v) -> x.copy(3, 0, 0, 0, v), 3);
        index("32 copy: how many, from the last", (x, v) -> x.copy(0, 3, 0, 0, v), 1);
        index("32 copy: how many, from behind the last", (x, v) -> x.copy(0, 4, 0, 0, v), 0);
        index("32 copy: how many, to the last", (x, v) -> x.copy(0, 0, 3, 2, v), 1);
    }

    private static void index(String told, Edges.Call copy, int most) {
        Edges.bounds(told, BoundsTest::ready, copy, at(0, 1), at(most, 1), Edges.INDEX, Edges.INDEX);
    }

    private static void writesAndCounts() {
        ints("33 write: minute", (x, v) -> x.write(v, 0), at(0, 3), at(1999, 3));
        ints("33 write: SHEET", (x, v) -> x.write(5, v), at(0, 3), at(3, 3));
        ints("34 count", (x, v) -> x.count(v), at(0, 8), at(8, 0));
    }
}
