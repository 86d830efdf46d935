/**
 * "Refusals, the first that fits, in the order told at each act": calls for which several fit. Each
 * answers the first, and changes nothing but count() 8, and that by a FINDING alone.
 */
public final class RefusalOrderTest {
    public static void main(String[] args) {
        badBeforeFull();
        badBeforeNot();
        badBeforeSize();
        badBeforeNull();
        nullBeforeAllElse();
        castBeforeIndex();
        storeBeforeIndex();
        getsInOrder();
        badIsNoFinding();
        asLongs();
        theLatestFinding();
        Check.end();
    }

    /** Both texts and FELL are full; SHEET 0 is ints, 1 is shorts, 2 has no items, 3 is LOST; count() 8 is 4. */
    private static StonesAbove full() {
        StonesAbove x = Check.with("l1l2l3l4l5l6l7l8l9l9l9l9l9l9l9l9", "10h;20.;30h;40.;50h;69.");
        for (int i = 0; i < 8; i++) {
            x.fell(i % 6, i, i % 2);
        }
        x.sheet(0, 2, 3);
        x.sheet(1, 1, 3);
        x.sheet(2, 2, 0);
        x.copy(0, 0, 1, 0, 1);
        return x;
    }

    private static void due(String told, Edges.Asked call, long due) {
        Edges.refused(told, RefusalOrderTest::full, call, due);
    }

    private static void badBeforeFull() {
        due("2 type: FULL, text 0", x -> x.type(0, '.'), Edges.FULL);
        due("2 type: FULL, text 1", x -> x.type(1, ';'), Edges.FULL);
        due("2 type: FULL, byte 0", x -> x.type(0, 0), Edges.FULL);
        due("2 type: FULL, byte 255", x -> x.type(1, 255), Edges.FULL);
        due("2 type: BAD before FULL, text 0", x -> x.type(0, 256), Edges.BAD);
        due("2 type: BAD before FULL, text 1", x -> x.type(1, -1), Edges.BAD);
        due("23 fell: FULL", x -> x.fell(0, 0, 0), Edges.FULL);
        due("23 fell: FULL, at the far ends", x -> x.fell(5, 15, 1), Edges.FULL);
        due("23 fell: BAD WALKER before FULL", x -> x.fell(6, 0, 0), Edges.BAD);
        due("23 fell: BAD PART before FULL", x -> x.fell(0, 16, 0), Edges.BAD);
        due("23 fell: BAD, neither, before FULL", x -> x.fell(0, 0, 2), Edges.BAD);
    }

    private static void badBeforeNot() {
        Edges.refused("4 undo: NOT, text 0", StonesAbove::new, x -> x.undo(0), Edges.NOT);
        Edges.refused("4 undo: NOT, text 1", StonesAbove::new, x -> x.undo(1), Edges.NOT);
        Edges.refused("4 undo: BAD before NOT", StonesAbove::new, x -> x.undo(2), Edges.BAD);
        due("22 foot: NOT", x -> x.foot(0, 1998, 0), Check.NOT_LONG);
        due("22 foot: BAD what before NOT", x -> x.foot(0, 1998, 2), Check.BAD_LONG);
        due("22 foot: BAD minute", x -> x.foot(0, 2000, 0), Check.BAD_LONG);
        due("22 foot: BAD minute, below", x -> x.foot(0, -1, 0), Check.BAD_LONG);
        due("22 foot: BAD PART before NOT", x -> x.foot(16, 1998, 0), Check.BAD_LONG);
    }

    private static void badBeforeSize() {
        due("28 sheet: SIZE", x -> x.sheet(0, 2, -1), Edges.SIZE);
        due("28 sheet: SIZE, of a LOST one", x -> x.sheet(3, 0, Edges.LEAST), Edges.SIZE);
        due("28 sheet: BAD SHEET before SIZE", x -> x.sheet(4, 0, -1), Edges.BAD);
        due("28 sheet: BAD SHEET, below, before SIZE", x -> x.sheet(-1, 0, -1), Edges.BAD);
        due("28 sheet: BAD FORM before SIZE", x -> x.sheet(0, 3, -1), Edges.BAD);
        due("28 sheet: BAD FORM, below, before SIZE", x -> x.sheet(0, -1, Edges.LEAST), Edges.BAD);
    }

    private static void badBeforeNull() {
        due("30 lay: BAD FORM before NULL", x -> x.lay(3, 3, 0, 0), Edges.BAD);
        due("30 lay: BAD FORM, below, before NULL", x -> x.lay(3, -1, 0, 0), Edges.BAD);
        due("32 copy: BAD to before NULL from", x -> x.copy(3, 0, 4, 0, 1), Edges.BAD);
        due("32 copy: BAD from before NULL to", x -> x.copy(-1, 0, 3, 0, 1), Edges.BAD);
        due("33 write: BAD minute before NULL", x -> x.write(2000, 3), Edges.BAD);
        due("33 write: BAD minute, below, before NULL", x -> x.write(-1, 3), Edges.BAD);
        due("26 read: BAD", x -> x.read(4), Edges.BAD);
        due("29 lose: BAD", x -> x.lose(4), Edges.BAD);
    }

    private static void nullBeforeAllElse() {
        due("26 read: NULL", x -> x.read(3), Edges.NULL);
        due("29 lose: NULL", x -> x.lose(3), Edges.NULL);
        due("33 write: NULL", x -> x.write(0, 3), Edges.NULL);
        due("30 lay: NULL", x -> x.lay(3, 0, 0, 0), Edges.NULL);
        due("30 lay: NULL before INDEX", x -> x.lay(3, 0, -1, 0), Edges.NULL);
        due("32 copy: NULL from", x -> x.copy(3, 0, 0, 0, 1), Edges.NULL);
        due("32 copy: NULL to", x -> x.copy(0, 0, 3, 0, 1), Edges.NULL);
        due("32 copy: NULL both", x -> x.copy(3, 0, 3, 0, 0), Edges.NULL);
        due("32 copy: NULL before INDEX", x -> x.copy(0, -1, 3, 99, -1), Edges.NULL);
    }

    private static void castBeforeIndex() {
        due("30 lay: CAST", x -> x.lay(0, 1, 0, 0), Edges.CAST);
        due("30 lay: CAST before INDEX", x -> x.lay(0, 0, 3, 0), Edges.CAST);
        due("30 lay: CAST before INDEX, below", x -> x.lay(1, 2, -1, 0), Edges.CAST);
        due("30 lay: CAST, no items", x -> x.lay(2, 1, 0, 0), Edges.CAST);
        due("30 lay: INDEX, no items", x -> x.lay(2, 2, 0, 0), Edges.INDEX);
    }

    private static void storeBeforeIndex() {
        due("32 copy: STORE", x -> x.copy(0, 0, 1, 0, 1), Edges.STORE);
        due("32 copy: STORE, the other way", x -> x.copy(1, 0, 0, 0, 1), Edges.STORE);
        due("32 copy: STORE, none", x -> x.copy(0, 0, 1, 0, 0), Edges.STORE);
        due("32 copy: STORE before INDEX from", x -> x.copy(0, -1, 1, 0, 1), Edges.STORE);
        due("32 copy: STORE before INDEX to", x -> x.copy(0, 0, 1, 4, 1), Edges.STORE);
        due("32 copy: STORE before INDEX, how many", x -> x.copy(0, 0, 1, 0, -1), Edges.STORE);
        due("32 copy: INDEX, like FORMS", x -> x.copy(0, 0, 2, 0, 1), Edges.INDEX);
    }

    private static void getsInOrder() {
        dueGet("31 get: BAD SHEET", x -> x.get(4, 0, 0), 0);
        dueGet("31 get: BAD FORM before NULL", x -> x.get(3, 3, 0), 0);
        dueGet("31 get: BAD FORM before CAST, INDEX", x -> x.get(0, -1, 3), 0);
        dueGet("31 get: NULL before INDEX", x -> x.get(3, 0, -1), 1);
        dueGet("31 get: CAST before INDEX", x -> x.get(0, 1, 3), 3);
        dueGet("31 get: INDEX", x -> x.get(0, 2, 3), 2);
        dueGet("31 get: INDEX, below", x -> x.get(0, 2, -1), 2);
        dueGet("31 get: INDEX, no items", x -> x.get(2, 2, 0), 2);
    }

    private static void dueGet(String told, Edges.Asked get, int finding) {
        Edges.refusedGet(told, RefusalOrderTest::full, get, finding);
    }

    /** "the latest FINDING (0 before any)": BAD, NOT, FULL are none. */
    private static void badIsNoFinding() {
        StonesAbove x = new StonesAbove();
        x.type(2, 0);
        x.undo(0);
        x.sheet(4, 0, -1);
        x.get(4, 0, 0);
        Check.due("34 count(8) after BAD and NOT", x.count(8), 0);
        for (int i = 0; i < 9; i++) {
            x.fell(0, 0, 0);
        }
        Check.due("34 count(8) after FULL", x.count(8), 0);
    }

    /** "a refusal -x is the least long and x more". */
    private static void asLongs() {
        Check.due("BAD as a long", new StonesAbove().all(0, 0), -9223372036854775806L);
        Check.due("NOT as a long", Check.with(".", "").foot(0, 0, 0), -9223372036854775805L);
    }

    private static void theLatestFinding() {
        StonesAbove x = full();
        Check.due("STORE", x.count(8), 4);
        x.sheet(0, 0, -1);
        Check.due("SIZE", x.count(8), 5);
        x.lay(0, 0, 0, 0);
        Check.due("CAST", x.count(8), 3);
        x.lay(0, 2, 3, 0);
        Check.due("INDEX", x.count(8), 2);
        x.lose(3);
        Check.due("NULL", x.count(8), 1);
        x.lose(0);
        x.sheet(0, 2, 3);
        x.forget();
        Check.due("what is well leaves it", x.count(8), 1);
    }
}
