import java.util.ArrayList;
import java.util.List;

/** What the tests of boundaries share: both sides of each bound, and that a refusal changes nothing. */
final class Edges {
    static final int BAD = -2;
    static final int NOT = -3;
    static final int FULL = -4;
    static final int NULL = -11;
    static final int INDEX = -12;
    static final int CAST = -13;
    static final int STORE = -14;
    static final int SIZE = -15;
    static final int LEAST = Integer.MIN_VALUE;
    static final int MOST = Integer.MAX_VALUE;

    private Edges() {
    }

    /** A call with one argument left open. */
    interface Call {
        long on(StonesAbove x, int v);
    }

    /** A call with no argument left open. */
    interface Asked {
        long on(StonesAbove x);
    }

    interface Making {
        StonesAbove make();
    }

    /** A number that is taken, and what is due for it. */
    record End(int v, long due) {
    }

    static End at(int v, long due) {
        return new End(v, due);
    }

    /** Both ends of what an argument may be, and what is due beyond them, the least and the most int as well. */
    static void bounds(String told, Making ready, Call call, End least, End most, long below, long above) {
        Check.due(told + " " + least.v, call.on(ready.make(), least.v), least.due);
        Check.due(told + " " + most.v, call.on(ready.make(), most.v), most.due);
        for (int v : new int[] {least.v - 1, LEAST + 1, LEAST}) {
            refused(told + " " + v, ready, x -> call.on(x, v), below);
        }
        for (int v : new int[] {most.v + 1, MOST - 1, MOST}) {
            refused(told + " " + v, ready, x -> call.on(x, v), above);
        }
    }

    /** A refusal is as due, and the object is then as one of which nothing was asked, but for a FINDING. */
    static void refused(String told, Making ready, Asked call, long due) {
        StonesAbove asked = ready.make();
        StonesAbove left = ready.make();
        Check.due(told, call.on(asked), due);
        long finding = left.count(8);
        if (due <= NULL && due >= SIZE) {
            finding = -10 - due;
        }
        Check.due(told + ": then count(8)", asked.count(8), finding);
        dueAlike(told, asked, left);
    }

    /** As refused(), of get(), which answers the least int whatever the refusal is: 0 where it is BAD. */
    static void refusedGet(String told, Making ready, Asked get, int finding) {
        StonesAbove asked = ready.make();
        StonesAbove left = ready.make();
        Check.due(told, get.on(asked), LEAST);
        Check.due(told + ": then count(8)", asked.count(8), finding == 0 ? left.count(8) : finding);
        dueAlike(told, asked, left);
    }

    static void dueAlike(String told, StonesAbove x, StonesAbove y) {
        Check.due(told + " changes nothing", state(x).equals(state(y)) ? 1 : 0, 1);
    }

    /** All that an object can tell of what it holds, but for the FINDING; it is of no use afterwards. */
    static List<Long> state(StonesAbove x) {
        List<Long> all = new ArrayList<>();
        for (int what = 0; what <= 5; what++) {
            int was = x.set(what, 0);
            all.add((long) was);
            x.set(what, was);
        }
        all.add(x.digest());
        for (int s = 0; s < 4; s++) {
            addItems(all, x, s);
        }
        // Which bytes there were shows as they are undone.
        for (int text = 0; text < 2; text++) {
            for (int left = x.count(2 + text); left > 0; left--) {
                all.add((long) x.fault(text));
                all.add((long) x.count(5) * 100 + x.count(7));
                x.undo(text);
            }
        }
        return all;
    }

    private static void addItems(List<Long> all, StonesAbove x, int s) {
        for (int form = 0; form < 3; form++) {
            int items = x.lay(s, form, LEAST, 0) == INDEX ? 60 : 0;
            all.add((long) items);
            for (int i = 0; i < items && x.copy(s, i, s, i, 1) == 1; i++) {
                all.add((long) x.get(s, form, i));
            }
        }
        all.add((long) x.lose(s));
    }
}
