/** Promises 1 to 8: a new object, the texts, PARTS, WALKERS, settings. */
public final class TextsTest {
    public static void main(String[] args) {
        newObject();
        typing();
        wiping();
        undoing();
        gullyFaults();
        walkersFaults();
        parts();
        walkers();
        settings();
        settingsBounds();
        Check.end();
    }

    private static void newObject() {
        StonesAbove x = new StonesAbove();
        for (int what = 0; what <= 8; what++) {
            Check.due("new: count(" + what + ")", x.count(what), what == 6 ? 1 : 0);
        }
        for (int s = 0; s < 4; s++) {
            Check.due("new: lose(" + s + ")", x.lose(s), -11);
        }
        Check.due("new: fault(0)", x.fault(0), -1);
        Check.due("new: fault(1)", x.fault(1), -1);
    }

    private static void typing() {
        StonesAbove x = new StonesAbove();
        for (int i = 1; i <= 32; i++) {
            Check.due("type(0) " + i, x.type(0, i == 1 ? 0 : 255), i);
        }
        Check.due("type(0), full", x.type(0, '.'), -4);
        Check.due("type(0), bad before full", x.type(0, 256), -2);
        for (int i = 1; i <= 23; i++) {
            Check.due("type(1) " + i, x.type(1, 'x'), i);
        }
        Check.due("type(1), full", x.type(1, '1'), -4);
        Check.due("type(1, -1)", x.type(1, -1), -2);
        Check.due("type(-1)", x.type(-1, '.'), -2);
        Check.due("type(2)", x.type(2, '.'), -2);
        Check.due("bytes", x.count(2) * 100 + x.count(3), 3223);
    }

    private static void wiping() {
        StonesAbove x = Check.with("..l3", "12h");
        Check.due("wipe(0)", x.wipe(0), 4);
        Check.due("wipe(0) again", x.wipe(0), 0);
        Check.due("PARTS", x.count(0), 0);
        Check.due("WALKERS stay", x.count(1), 1);
        Check.due("wipe(1)", x.wipe(1), 3);
        Check.due("WALKERS", x.count(1), 0);
        Check.due("wipe(2)", x.wipe(2), -2);
        Check.due("wipe(-1)", x.wipe(-1), -2);
    }

    private static void undoing() {
        StonesAbove x = Check.with(".l3", "12h;45.");
        Check.due("undo(0)", x.undo(0), 2);
        Check.due("fault after undo", x.fault(0), 2);
        Check.due("PARTS of a faulty text", x.count(0), 0);
        Check.due("undo(0)", x.undo(0), 1);
        Check.due("PARTS", x.count(0), 1);
        Check.due("undo(0)", x.undo(0), 0);
        Check.due("undo(0), empty", x.undo(0), -3);
        Check.due("undo(1)", x.undo(1), 6);
        Check.due("undo(2)", x.undo(2), -2);
        Check.due("undo(-1)", x.undo(-1), -2);
    }

    private static void gullyFaults() {
        Check.due("well", Check.fault(0, ".snl1l9"), -1);
        Check.due("not ended", Check.fault(0, "..l"), 3);
        Check.due("l0", Check.fault(0, ".l0"), 2);
        Check.due("ll", Check.fault(0, "ll1"), 1);
        Check.due("a figure alone", Check.fault(0, ".3"), 1);
        Check.due("another byte", Check.fault(0, "x."), 0);
        Check.due("L", Check.fault(0, "..L3"), 2);
        Check.due("the first of two", Check.fault(0, ".x.y"), 1);
        Check.due("a byte above 127", Check.fault(0, "." + (char) 174), 1);
        Check.due("16 PARTS", Check.fault(0, "................"), -1);
        Check.due("17 PARTS", Check.fault(0, "................."), 16);
        Check.due("17 PARTS, the last loose", Check.fault(0, "l1...............l2"), 17);
        Check.due("17 PARTS, the last not ended", Check.fault(0, "................l"), 16);
        Check.due("16 loose PARTS", Check.fault(0, "l1l2l3l4l5l6l7l8l9l1l2l3l4l5l6l7"), -1);
        StonesAbove x = new StonesAbove();
        Check.due("fault(-1)", x.fault(-1), -2);
        Check.due("fault(2)", x.fault(2), -2);
    }

    private static void walkersFaults() {
        Check.due("well", Check.fault(1, "10h;99."), -1);
        Check.due("WEIGHT 0", Check.fault(1, "00h"), 0);
        Check.due("WEIGHT no figure", Check.fault(1, "12h;h2h"), 4);
        Check.due("SKILL no figure", Check.fault(1, "1."), 1);
        Check.due("helmet", Check.fault(1, "12n"), 2);
        Check.due("between", Check.fault(1, "12h12h"), 3);
        Check.due("not ended, WEIGHT", Check.fault(1, "1"), 1);
        Check.due("not ended, SKILL", Check.fault(1, "12"), 2);
        Check.due("not ended, next", Check.fault(1, "12h;"), 4);
        Check.due("two signs between", Check.fault(1, "12h;;"), 4);
        Check.due("six", Check.fault(1, "10h;20.;30h;40.;50h;69."), -1);
        StonesAbove x = Check.with("..", "10h;20.;30");
        Check.due("WALKERS of a faulty text", x.count(1), 0);
        Check.due("helmets of a faulty text", x.count(7), 0);
        Check.due("a walker of a faulty text", x.walker(0, 0), -2);
    }

    private static void parts() {
        StonesAbove x = Check.with(".snl7l1", "");
        int[] kinds = {0, 1, 2, 3, 3};
        int[] loose = {0, 0, 0, 7, 1};
        for (int p = 0; p < 5; p++) {
            Check.due("part(" + p + ", 0)", x.part(p, 0), kinds[p]);
            Check.due("part(" + p + ", 1)", x.part(p, 1), loose[p]);
        }
        Check.due("part(5, 0)", x.part(5, 0), -2);
        Check.due("part(-1, 0)", x.part(-1, 0), -2);
        Check.due("part(0, 2)", x.part(0, 2), -2);
        Check.due("part(0, -1)", x.part(0, -1), -2);
        Check.due("loose together", x.count(5), 8);
        x.type(0, 'l');
        Check.due("part of a faulty text", x.part(0, 0), -2);
        Check.due("loose of a faulty text", x.count(5), 0);
        Check.retype(x, 0, "s.");
        Check.due("a part typed anew", x.part(0, 0), 1);
        Check.due("how loose, typed anew", x.part(1, 1), 0);
    }

    private static void walkers() {
        StonesAbove x = Check.with("", "10h;29.;93h");
        int[][] told = {{1, 0, 1}, {2, 9, 0}, {9, 3, 1}};
        for (int w = 0; w < 3; w++) {
            for (int what = 0; what < 3; what++) {
                Check.due("walker(" + w + ", " + what + ")", x.walker(w, what), told[w][what]);
            }
        }
        Check.due("walker(3, 0)", x.walker(3, 0), -2);
        Check.due("walker(-1, 0)", x.walker(-1, 0), -2);
        Check.due("walker(0, 3)", x.walker(0, 3), -2);
        Check.due("walker(0, -1)", x.walker(0, -1), -2);
        Check.due("helmets", x.count(7), 2);
    }

    private static void settings() {
        StonesAbove x = new StonesAbove();
        int[] first = {1, 0, 16, 0, 1999, 1};
        int[] next = {7, 1, 3, 40, 50, 6};
        for (int what = 0; what < 6; what++) {
            Check.due("set(" + what + ") at first", x.set(what, next[what]), first[what]);
        }
        for (int what = 0; what < 6; what++) {
            Check.due("set(" + what + ") again", x.set(what, next[what]), next[what]);
        }
        Check.due("GAP", x.count(6), 7);
    }

    private static void settingsBounds() {
        StonesAbove x = new StonesAbove();
        int[] most = {99, 1, 16, 999, 1999, 16};
        for (int what = 0; what < 6; what++) {
            x.set(what, 0);
            Check.due("set(" + what + ", most)", x.set(what, most[what]), 0);
            Check.due("set(" + what + ", above)", x.set(what, most[what] + 1), -2);
            Check.due("set(" + what + ", below)", x.set(what, -1), -2);
            Check.due("set(" + what + ", 0)", x.set(what, 0), most[what]);
        }
        Check.due("set(6)", x.set(6, 0), -2);
        Check.due("set(-1)", x.set(-1, 0), -2);
    }
}
