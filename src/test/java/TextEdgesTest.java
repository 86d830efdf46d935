/** The boundary cases of promises 1 to 8: what a new object is, how long texts are, where their FAULTS are, settings. */
public final class TextEdgesTest {
    private static final String SIXTEEN_LOOSE = "l1l2l3l4l5l6l7l8l9l1l2l3l4l5l6l7";
    private static final String SIX = "10h;29.;38h;47.;56h;95.";

    public static void main(String[] args) {
        newObject();
        gullyIsUpTo32Bytes();
        walkersAreUpTo23Bytes();
        faultyBytesFillTextsToo();
        sixteenParts();
        seventeenthPart();
        figureOfLoose();
        bytesOfGully();
        allOthersAreNotLoose();
        sixWalkers();
        bytesOfWalkers();
        emptyIsWell();
        notEnded();
        firstOfSeveralFaults();
        faultyGullyIsAsEmpty();
        faultyWalkersAreAsNone();
        undoneToTheLast();
        wipedWhenFull();
        settingsAtFirst();
        settingsRefusedStay();
        Check.end();
    }

    /** "No GULLY; all SHEETS are LOST." */
    private static void newObject() {
        StonesAbove x = new StonesAbove();
        int[] counts = {0, 0, 0, 0, 0, 0, 1, 0, 0};
        for (int what = 0; what <= 8; what++) {
            Check.due("1 new: count(" + what + ")", x.count(what), counts[what]);
        }
        Check.due("1 new: no PART 0", x.part(0, 0), -2);
        Check.due("1 new: no WALKER 0", x.walker(0, 0), -2);
        Check.due("1 new: FAULT of text 0", x.fault(0), -1);
        Check.due("1 new: FAULT of text 1", x.fault(1), -1);
        Check.due("1 new: FELL", x.forget(), 0);
        for (int s = 0; s < 4; s++) {
            Check.due("1 new: SHEET " + s + " is LOST", x.lose(s), -11);
        }
    }

    private static void gullyIsUpTo32Bytes() {
        StonesAbove x = Check.with(SIXTEEN_LOOSE.substring(0, 31), "");
        Check.due("31 bytes: FAULT at their end", x.fault(0), 31);
        Check.due("the 32nd byte", x.type(0, '7'), 32);
        Check.due("the 33rd byte", x.type(0, '.'), -4);
        Check.due("bytes then", x.count(2), 32);
        Check.due("FAULT then", x.fault(0), -1);
        Check.due("PARTS then", x.count(0), 16);
        Check.due("one undone", x.undo(0), 31);
        Check.due("another for it", x.type(0, '9'), 32);
        Check.due("how LOOSE the last is", x.part(15, 1), 9);
    }

    private static void walkersAreUpTo23Bytes() {
        StonesAbove x = Check.with("", SIX.substring(0, 22));
        Check.due("22 bytes: FAULT at their end", x.fault(1), 22);
        Check.due("the 23rd byte", x.type(1, '.'), 23);
        Check.due("the 24th byte", x.type(1, ';'), -4);
        Check.due("bytes then", x.count(3), 23);
        Check.due("FAULT then", x.fault(1), -1);
        Check.due("WALKERS then", x.count(1), 6);
    }

    private static void faultyBytesFillTextsToo() {
        StonesAbove x = new StonesAbove();
        for (int i = 1; i <= 32; i++) {
            Check.due("byte 0, " + i, x.type(0, 0), i);
        }
        Check.due("byte 0, one more", x.type(0, 0), -4);
        for (int i = 1; i <= 23; i++) {
            Check.due("byte 255, " + i, x.type(1, 255), i);
        }
        Check.due("byte 255, one more", x.type(1, 255), -4);
        Check.due("FAULT of text 0", x.fault(0), 0);
        Check.due("FAULT of text 1", x.fault(1), 0);
    }

    private static void sixteenParts() {
        StonesAbove x = Check.with("...............", "");
        Check.due("15 PARTS", x.count(0), 15);
        Check.due("no PART 15 yet", x.part(15, 0), -2);
        x.type(0, 'n');
        Check.due("16 PARTS", x.count(0), 16);
        Check.due("PART 15", x.part(15, 0), 2);
        Check.due("no PART 16", x.part(16, 0), -2);
        Check.due("16 PARTS are well", x.fault(0), -1);
    }

    /** "here also of the first byte of a seventeenth PART": wherever it is, whatever it is, ended or not. */
    private static void seventeenthPart() {
        Check.due("seventeen of a byte each", Check.fault(0, "................."), 16);
        for (String last : new String[] {".", "s", "n", "l", "l1", "l0", "ll", "x", "9"}) {
            Check.due("behind sixteen of a byte each: " + last, Check.fault(0, "................" + last), 16);
        }
        Check.due("behind fifteen loose and one firm", Check.fault(0, SIXTEEN_LOOSE.substring(0, 30) + ".."), 31);
        Check.due("behind fifteen loose and one firm, l", Check.fault(0, SIXTEEN_LOOSE.substring(0, 30) + ".l"), 31);
        Check.due("behind eight loose and eight firm", Check.fault(0, "l1l1l1l1l1l1l1l1........l9"), 24);
        Check.due("two more PARTS", Check.fault(0, ".................."), 16);
        Check.due("a fault before it", Check.fault(0, "...............x.."), 15);
        StonesAbove x = Check.with(".................", "11.");
        Check.due("with seventeen there are none", x.count(0), 0);
        Check.due("one undone", x.undo(0), 16);
        Check.due("then there are sixteen", x.count(0), 16);
    }

    /** "l and a figure (1 to 9): LOOSE so much". */
    private static void figureOfLoose() {
        for (int b = 0; b <= 255; b++) {
            StonesAbove x = Check.with("l", "");
            x.type(0, b);
            boolean figure = b >= '1' && b <= '9';
            Check.due("l and byte " + b + ": FAULT", x.fault(0), figure ? -1 : 1);
            Check.due("l and byte " + b + ": how LOOSE", x.part(0, 1), figure ? b - '0' : -2);
            Check.due("l and byte " + b + ": the kind", x.part(0, 0), figure ? 3 : -2);
        }
    }

    private static void bytesOfGully() {
        for (int b = 0; b <= 255; b++) {
            StonesAbove x = Check.with(".", "");
            x.type(0, b);
            int kind = b == '.' ? 0 : b == 's' ? 1 : b == 'n' ? 2 : -2;
            Check.due("byte " + b + " behind a PART: FAULT", x.fault(0), kind >= 0 ? -1 : b == 'l' ? 2 : 1);
            Check.due("byte " + b + " behind a PART: the kind", x.part(1, 0), kind);
        }
    }

    /** "LOOSE so much (all others 0)". */
    private static void allOthersAreNotLoose() {
        StonesAbove x = Check.with(".snl9", "");
        for (int p = 0; p < 4; p++) {
            Check.due("6 part(" + p + ", 0)", x.part(p, 0), p);
            Check.due("6 part(" + p + ", 1)", x.part(p, 1), p == 3 ? 9 : 0);
        }
        Check.due("34 count(5)", x.count(5), 9);
    }

    private static void sixWalkers() {
        StonesAbove x = Check.with("", SIX);
        int[][] told = {{1, 0, 1}, {2, 9, 0}, {3, 8, 1}, {4, 7, 0}, {5, 6, 1}, {9, 5, 0}};
        for (int w = 0; w < 6; w++) {
            for (int what = 0; what < 3; what++) {
                Check.due("7 walker(" + w + ", " + what + ")", x.walker(w, what), told[w][what]);
            }
        }
        Check.due("7 walker(6, 0)", x.walker(6, 0), -2);
        Check.due("34 count(7)", x.count(7), 3);
    }

    /** "a figure WEIGHT (1 to 9), a figure SKILL (0 to 9), and h or .", "with ; between them": every byte at every place. */
    private static void bytesOfWalkers() {
        for (int b = 0; b <= 255; b++) {
            boolean figure = b >= '0' && b <= '9';
            dueWalkers("", b, "0.", figure && b != '0', 1);
            dueWalkers("1", b, ".", figure, 1);
            dueWalkers("10", b, "", b == 'h' || b == '.', 1);
            dueWalkers("10.", b, "10.", b == ';', 2);
            dueWalkers("10.;", b, "0.", figure && b != '0', 2);
            dueWalkers("10.;1", b, ".", figure, 2);
            dueWalkers("10.;10", b, "", b == 'h' || b == '.', 2);
        }
    }

    private static void dueWalkers(String before, int b, String behind, boolean well, int walkers) {
        StonesAbove x = Check.with("", before);
        x.type(1, b);
        Check.type(x, 1, behind);
        String told = before + " and byte " + b + " and " + behind;
        Check.due(told + ": FAULT", x.fault(1), well ? -1 : before.length());
        Check.due(told + ": WALKERS", x.count(1), well ? walkers : 0);
    }

    /** "an empty one is well": at first, when wiped, when undone. */
    private static void emptyIsWell() {
        StonesAbove x = Check.with("x", "x");
        for (int text = 0; text < 2; text++) {
            Check.due("5 FAULT of x", x.fault(text), 0);
            x.wipe(text);
            Check.due("5 FAULT, wiped", x.fault(text), -1);
            x.type(text, 'x');
            x.undo(text);
            Check.due("5 FAULT, undone", x.fault(text), -1);
        }
    }

    /** "of one that is not ended, its end". */
    private static void notEnded() {
        Check.due("l", Check.fault(0, "l"), 1);
        Check.due(".l", Check.fault(0, ".l"), 2);
        Check.due("l1l", Check.fault(0, "l1l"), 3);
        Check.due("fifteen and l", Check.fault(0, "...............l"), 16);
        for (int n = 1; n < 23; n++) {
            Check.due(SIX.substring(0, n), Check.fault(1, SIX.substring(0, n)), n % 4 == 3 ? -1 : n);
        }
    }

    private static void firstOfSeveralFaults() {
        Check.due(".x.x", Check.fault(0, ".x.x"), 1);
        Check.due("l0x", Check.fault(0, "l0x"), 1);
        Check.due(".xl", Check.fault(0, ".xl"), 1);
        Check.due("10.;0x", Check.fault(1, "10.;0x"), 4);
        Check.due("1x", Check.fault(1, "1x"), 1);
        Check.due(";", Check.fault(1, ";"), 0);
        Check.due("10.;;10.", Check.fault(1, "10.;;10."), 4);
    }

    /** "With a FAULT a text is as if it was empty." */
    private static void faultyGullyIsAsEmpty() {
        StonesAbove x = Check.with("..l9l9l", "90.;90h");
        x.set(3, 40);
        x.set(4, 40);
        x.sheet(0, 0, 3);
        int[] counts = {0, 2, 7, 7, 0, 0, 1, 1, 0};
        for (int what = 0; what <= 8; what++) {
            Check.due("count(" + what + ")", x.count(what), counts[what]);
        }
        Check.due("part", x.part(0, 0), -2);
        Check.due("place", x.place(0, 40), -1);
        Check.due("treads", x.treads(0, 2), -2);
        Check.due("hits", x.hits(2, 0, 0), -2);
        Check.dueFraction("harm", x.harm(0, 1, 0), x.harm(0, 1, 1), 0, 1);
        Check.dueFraction("all", x.all(-1, 0), x.all(-1, 1), 0, 1);
        Check.due("ends", x.ends(), 40);
        Check.due("latest", x.latest(), 40);
        Check.due("foot", x.foot(2, 42, 0), Check.BAD_LONG);
        Check.due("loose", x.loose(2), -2);
        Check.due("waits", x.waits(6, 0, 999, 1), 0);
        Check.due("morning", x.morning(1), 0);
        Check.due("write", x.write(40, 0), 2);
        Check.due("what was written", x.get(0, 0, 1), -1);
        x.undo(0);
        Check.due("undone: PARTS", x.count(0), 4);
        Check.due("undone: place", x.place(0, 42), 2);
    }

    private static void faultyWalkersAreAsNone() {
        StonesAbove x = Check.with("..l9l9", "90.;90h;");
        x.set(3, 40);
        x.set(4, 45);
        x.fell(0, 0, 1);
        x.sheet(0, 0, 3);
        int[] counts = {4, 0, 6, 8, 1, 18, 1, 0, 0};
        for (int what = 0; what <= 8; what++) {
            Check.due("count(" + what + ")", x.count(what), counts[what]);
        }
        Check.due("walker", x.walker(0, 0), -2);
        Check.due("place", x.place(0, 40), -2);
        Check.due("treads", x.treads(0, 2), -2);
        Check.due("hits", x.hits(3, 0, 0), 3);
        Check.due("harm", x.harm(0, 1, 0), Check.BAD_LONG);
        Check.due("harm by the SUN", x.harm(-1, 0, 0), Check.BAD_LONG);
        Check.due("all, of one", x.all(0, 0), Check.BAD_LONG);
        Check.dueFraction("all", x.all(-1, 0), x.all(-1, 1), 0, 1);
        Check.due("ends", x.ends(), 40);
        Check.due("latest", x.latest(), 45);
        Check.due("order", x.order(0), -1);
        Check.dueFraction("ordered", x.ordered(0), x.ordered(1), 0, 1);
        Check.due("helmets(0)", x.helmets(0, 0), 0);
        Check.due("helmets(1)", x.helmets(1, 0), Check.BAD_LONG);
        Check.due("waits", x.waits(6, 0, 999, 0), 0);
        Check.due("foot, no SUN yet", x.foot(2, 42, 0), Check.NOT_LONG);
        Check.due("foot, the SUN", x.foot(2, 45, 1), 1);
        Check.due("loose", x.loose(0), 1);
        Check.due("morning", x.morning(1), 0);
        Check.due("write", x.write(40, 0), 0);
        x.undo(1);
        Check.due("undone: WALKERS", x.count(1), 2);
        Check.due("undone: loose", x.loose(0), 9);
    }

    private static void undoneToTheLast() {
        StonesAbove x = Check.with(SIXTEEN_LOOSE, SIX);
        for (int left = 31; left >= 0; left--) {
            Check.due("4 undo(0)", x.undo(0), left);
            Check.due("PARTS of " + left + " bytes", x.count(0), left % 2 == 0 ? left / 2 : 0);
        }
        Check.due("4 undo(0), empty", x.undo(0), -3);
        for (int left = 22; left >= 0; left--) {
            Check.due("4 undo(1)", x.undo(1), left);
            Check.due("WALKERS of " + left + " bytes", x.count(1), left % 4 == 3 ? left / 4 + 1 : 0);
        }
        Check.due("4 undo(1), empty", x.undo(1), -3);
        Check.due("typed anew", x.type(0, 's'), 1);
        Check.due("its kind", x.part(0, 0), 1);
        Check.due("how LOOSE it is", x.part(0, 1), 0);
    }

    private static void wipedWhenFull() {
        StonesAbove x = Check.with(SIXTEEN_LOOSE, SIX);
        Check.due("3 wipe(0), full", x.wipe(0), 32);
        Check.due("3 wipe(0), empty", x.wipe(0), 0);
        Check.due("WALKERS stay", x.count(1), 6);
        Check.due("3 wipe(1), full", x.wipe(1), 23);
        Check.due("3 wipe(1), empty", x.wipe(1), 0);
        Check.due("typed anew, text 0", x.type(0, '.'), 1);
        Check.due("typed anew, text 1", x.type(1, '1'), 1);
    }

    /** "GAP 1 at first", "ZIGZAG 0 at first", "LAG 16 at first", "BEGIN 0 at first", "SUN 1999 at first", "SUNNED 1 at first". */
    private static void settingsAtFirst() {
        int[] first = {1, 0, 16, 0, 1999, 1};
        int[] most = {99, 1, 16, 999, 1999, 16};
        StonesAbove x = new StonesAbove();
        for (int what = 0; what < 6; what++) {
            Check.due("8 set(" + what + ") at first", x.set(what, most[what]), first[what]);
        }
        for (int what = 0; what < 6; what++) {
            Check.due("8 set(" + what + ") to the least", x.set(what, 0), most[what]);
        }
        for (int what = 0; what < 6; what++) {
            Check.due("8 set(" + what + ") again", x.set(what, 0), 0);
        }
    }

    private static void settingsRefusedStay() {
        int[] most = {99, 1, 16, 999, 1999, 16};
        for (int what = 0; what < 6; what++) {
            for (int v : new int[] {-1, most[what] + 1, Edges.LEAST, Edges.MOST}) {
                StonesAbove x = new StonesAbove();
                x.set(what, most[what]);
                Check.due("8 set(" + what + ", " + v + ")", x.set(what, v), -2);
                Check.due("8 set(" + what + ") is as it was", x.set(what, 0), most[what]);
            }
        }
    }
}
