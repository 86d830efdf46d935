/** Promises 16 to 20: CURVE, BEST GAP, ORDER, HELMETS. */
public final class SearchesTest {
    public static void main(String[] args) {
        curve();
        bestGap();
        order();
        orderByHelmets();
        orderByNumbers();
        orderBySun();
        orderOfLikeOnes();
        orderRefused();
        helmets();
        helmetsOfLikeOnes();
        helmetsRefused();
        nothingChanges();
        Check.end();
    }

    /** ODDS are 7, 4, 4. */
    private static void curve() {
        StonesAbove x = Check.with("..l4", "90.;11.;11.");
        Check.dueFraction("curve(0)", x.curve(0, 0), x.curve(0, 1), 0, 1);
        Check.dueFraction("curve(1)", x.curve(1, 0), x.curve(1, 1), 25, 256);
        Check.dueFraction("curve(2)", x.curve(2, 0), x.curve(2, 1), 11, 128);
        Check.dueFraction("curve(3)", x.curve(3, 0), x.curve(3, 1), 0, 1);
        Check.dueFraction("curve(99)", x.curve(99, 0), x.curve(99, 1), 0, 1);
        Check.due("curve(100)", x.curve(100, 0), Check.BAD_LONG);
        Check.due("curve(-1)", x.curve(-1, 0), Check.BAD_LONG);
        Check.due("curve(0, 2)", x.curve(0, 2), Check.BAD_LONG);
        Check.due("curve(0, -1)", x.curve(0, -1), Check.BAD_LONG);
        x.set(4, 0);
        Check.dueFraction("curve(0), sunned", x.curve(0, 0), x.curve(0, 1), 9, 256);
        Check.dueFraction("curve(1), sunned", x.curve(1, 0), x.curve(1, 1), 17, 128);
        Check.dueFraction("curve(99), sunned", x.curve(99, 0), x.curve(99, 1), 9, 256);
        Check.due("GAP is as it was", x.count(6), 1);
    }

    /** GAP 0 is always among the best, as none is below another then, and the SUN finds all soonest out. */
    private static void bestGap() {
        StonesAbove x = Check.with("..l4", "90.;11.;11.");
        for (int most = 0; most <= 99; most += 33) {
            Check.due("gap(" + most + ")", x.gap(most), 0);
        }
        x.set(4, 2);
        Check.due("gap(99), sunned", x.gap(99), 0);
        Check.due("gap(100)", x.gap(100), -2);
        Check.due("gap(-1)", x.gap(-1), -2);
        Check.due("GAP is as it was", x.count(6), 1);
        Check.due("gap(9) of none", new StonesAbove().gap(9), 0);
    }

    /** Who treads off the most goes last. */
    private static void order() {
        StonesAbove x = Check.with("..l4", "90.;19.;11.");
        dueOrder(x, "19., 11., 90.", 1, 2, 0);
        Check.dueFraction("ordered", x.ordered(0), x.ordered(1), 7, 256);
        x.set(0, 3);
        dueOrder(x, "none is hit", 0, 1, 2);
        Check.dueFraction("ordered, none is hit", x.ordered(0), x.ordered(1), 0, 1);
    }

    /** A helmet goes with its WALKER, so that who has one goes below. */
    private static void orderByHelmets() {
        StonesAbove x = Check.with(".l4", "11h;11.");
        dueOrder(x, "the helmet below", 1, 0);
        Check.dueFraction("ordered", x.ordered(0), x.ordered(1), 0, 1);
        Check.retype(x, 1, "11.;11h");
        dueOrder(x, "the helmet is below", 0, 1);
    }

    /** In ZIGZAG only every second one is hit: the two light ones at one side, the heavy ones above no one. */
    private static void orderByNumbers() {
        StonesAbove x = Check.with("..l9", "90.;19.;90.");
        x.set(1, 1);
        x.set(0, 2);
        dueOrder(x, "a light one ahead on the same side", 1, 0, 2);
        Check.dueFraction("ordered", x.ordered(0), x.ordered(1), 3, 64);
    }

    /** The SUN finds who goes last: that one had better have a helmet. */
    private static void orderBySun() {
        StonesAbove x = Check.with("...l1", "19h;19.");
        x.set(4, 3);
        x.set(5, 16);
        dueOrder(x, "the helmet last", 1, 0);
    }

    private static void orderOfLikeOnes() {
        StonesAbove x = Check.with("..l4", "11.;11.;11.;11.;11.;11.");
        dueOrder(x, "six like ones", 0, 1, 2, 3, 4, 5);
        Check.retype(x, 1, "90.;11.;90.;11.");
        dueOrder(x, "two of each", 1, 3, 0, 2);
        dueOrder(new StonesAbove(), "none");
    }

    private static void orderRefused() {
        StonesAbove x = Check.with("..l4", "11.");
        Check.due("order(6)", x.order(6), -2);
        Check.due("order(-1)", x.order(-1), -2);
        Check.due("ordered(2)", x.ordered(2), Check.BAD_LONG);
        Check.due("ordered(-1)", x.ordered(-1), Check.BAD_LONG);
    }

    /** HARM to the second is 7 or 0 with a helmet, to the third 18 or 7. */
    private static void helmets() {
        for (String walkers : new String[] {"90.;11.;11.", "90h;11h;11h"}) {
            StonesAbove x = Check.with("..l4", walkers);
            dueHelmets(x, 0, 0, 25, 256);
            dueHelmets(x, 1, 4, 7, 128);
            dueHelmets(x, 2, 6, 7, 256);
            dueHelmets(x, 3, 7, 7, 256);
        }
    }

    private static void helmetsOfLikeOnes() {
        StonesAbove x = Check.with("...", "90.;11.;11h");
        dueHelmets(x, 1, 1, 0, 1);
        dueHelmets(x, 2, 3, 0, 1);
        dueHelmets(new StonesAbove(), 0, 0, 0, 1);
    }

    private static void helmetsRefused() {
        StonesAbove x = Check.with("..l4", "90.;11.;11.");
        Check.due("helmets(4, 0)", x.helmets(4, 0), Check.BAD_LONG);
        Check.due("helmets(-1, 0)", x.helmets(-1, 0), Check.BAD_LONG);
        Check.due("helmets(0, 3)", x.helmets(0, 3), Check.BAD_LONG);
        Check.due("helmets(0, -1)", x.helmets(0, -1), Check.BAD_LONG);
        Check.retype(x, 1, "90.;11.;11.;11.;11.;11.");
        Check.due("helmets(6, 0)", x.helmets(6, 0), 63);
        Check.due("helmets(7, 0)", x.helmets(7, 0), Check.BAD_LONG);
    }

    private static void nothingChanges() {
        StonesAbove x = Check.with("..l4nl9", "90.;11h;11.");
        long before = x.digest();
        x.gap(99);
        x.order(0);
        x.ordered(0);
        x.helmets(2, 0);
        x.curve(50, 0);
        Check.due("digest() after searches", x.digest(), before);
    }

    private static void dueOrder(StonesAbove x, String told, int... row) {
        for (int i = 0; i < 6; i++) {
            Check.due(told + ": order(" + i + ")", x.order(i), i < row.length ? row[i] : -1);
        }
    }

    private static void dueHelmets(StonesAbove x, int k, int bits, long above, long below) {
        Check.due("helmets(" + k + ", 0)", x.helmets(k, 0), bits);
        Check.dueFraction("helmets(" + k + ")", x.helmets(k, 1), x.helmets(k, 2), above, below);
    }
}
