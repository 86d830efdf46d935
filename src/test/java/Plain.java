import java.math.BigInteger;
import java.util.ArrayList;
import java.util.Arrays;
import java.util.List;
import java.util.regex.Matcher;
import java.util.regex.Pattern;

/**
 * The document read word for word, without a thought for speed or room: everything is found by
 * going through the minutes one by one, all rows, all bits. The class under test finds the same by
 * other ways, so that a slip in one of them shows.
 */
final class Plain {
    private static final Pattern PART = Pattern.compile("[.sn]|l[1-9]");
    private static final Pattern WALKER = Pattern.compile("[1-9][0-9][h.]");
    private static final int[] MOST = {99, 1, 16, 999, 1999, 16};

    private final StringBuilder[] texts = {new StringBuilder(), new StringBuilder()};
    private final int[] settings = {1, 0, 16, 0, 1999, 1};
    private final List<int[]> fell = new ArrayList<>();
    private final Object[] sheets = new Object[4];
    private int finding = 0;

    /** A fraction in lowest terms: above (what = 0) or below. */
    private static long told(long above, long below, int what) {
        BigInteger shared = BigInteger.valueOf(above).gcd(BigInteger.valueOf(below));
        return (what == 0 ? above : below) / shared.longValueExact();
    }

    /** Everything that HARM hangs on, to be changed freely for a question. */
    private static final class Scene {
        List<String> parts;
        List<String> row;
        int gap;
        int zigzag;
        int lag;
        int begin;
        int sun;
        int sunned;

        int pace() {
            return zigzag == 1 ? 2 : 1;
        }

        int place(int i, int minute) {
            int since = minute - (begin + i * gap);
            if (since < 0) {
                return -1;
            }
            int p = since / pace();
            return p < parts.size() ? p : -1;
        }

        int enters(int i, int minute) {
            int since = minute - (begin + i * gap);
            return since >= 0 && since % pace() == 0 ? place(i, minute) : -1;
        }

        int loose(int p) {
            return parts.get(p).charAt(0) == 'l' ? parts.get(p).charAt(1) - '0' : 0;
        }

        int odds(int i, int p) {
            return loose(p) == 0 ? 0 : oddsFor(loose(p), row.get(i));
        }

        int hits(int from, int to, boolean helmet) {
            if (to < 0 || to >= from || parts.get(to).equals("s")) {
                return 0;
            }
            int by = parts.get(to).equals("n") ? Math.min(16, 2 * (from - to)) : from - to;
            by = from - to > lag ? by / 2 : by;
            return helmet ? by / 2 : by;
        }

        boolean helmet(int i) {
            return row.get(i).charAt(2) == 'h';
        }

        /** HARM in 256ths, here and below. */
        long byWalker(int by, int to) {
            if (zigzag == 1 && by % 2 != to % 2) {
                return 0;
            }
            long sum = 0;
            for (int m = begin; m < ends(); m++) {
                int from = enters(by, m);
                if (from >= 0) {
                    sum += odds(by, from) * hits(from, place(to, m), helmet(to));
                }
            }
            return sum;
        }

        long bySun(int to) {
            long sum = 0;
            for (int m = Math.max(begin, sun); m < ends(); m++) {
                int at = place(to, m);
                for (int from = at + 1; at >= 0 && from < parts.size(); from++) {
                    if (loose(from) > 0) {
                        sum += sunned * hits(from, at, helmet(to));
                    }
                }
            }
            return sum;
        }

        long toOne(int to) {
            long sum = bySun(to);
            for (int by = 0; by < row.size(); by++) {
                if (by != to) {
                    sum += byWalker(by, to);
                }
            }
            return sum;
        }

        long together() {
            long sum = 0;
            for (int to = 0; to < row.size(); to++) {
                sum += toOne(to);
            }
            return sum;
        }

        int ends() {
            return row.isEmpty() || parts.isEmpty() ? begin : begin + (row.size() - 1) * gap + parts.size() * pace();
        }
    }

    private static int oddsFor(int loose, String walker) {
        int more = (walker.charAt(0) - '0') / 3;
        int less = (walker.charAt(1) - '0') / 3;
        return Math.max(0, Math.min(16, loose + more - less));
    }

    private Scene scene() {
        Scene s = new Scene();
        s.parts = parts();
        s.row = walkers();
        s.gap = settings[0];
        s.zigzag = settings[1];
        s.lag = settings[2];
        s.begin = settings[3];
        s.sun = settings[4];
        s.sunned = settings[5];
        return s;
    }

    private List<String> parts() {
        List<String> found = new ArrayList<>();
        if (fault(0) == -1) {
            Matcher m = PART.matcher(texts[0]);
            while (m.find()) {
                found.add(m.group());
            }
        }
        return found;
    }

    private List<String> walkers() {
        List<String> found = new ArrayList<>();
        if (fault(1) == -1 && texts[1].length() > 0) {
            found.addAll(Arrays.asList(texts[1].toString().split(";")));
        }
        return found;
    }

    private boolean isPart(int p) {
        return p >= 0 && p < parts().size();
    }

    private boolean isWalker(int w) {
        return w >= 0 && w < walkers().size();
    }

    private static boolean in(int v, int least, int most) {
        return v >= least && v <= most;
    }

    private static final long BAD_LONG = Long.MIN_VALUE + 2;

    int type(int text, int b) {
        if (!in(text, 0, 1) || !in(b, 0, 255)) {
            return -2;
        }
        if (texts[text].length() == (text == 0 ? 32 : 23)) {
            return -4;
        }
        texts[text].append((char) b);
        return texts[text].length();
    }

    int wipe(int text) {
        if (!in(text, 0, 1)) {
            return -2;
        }
        int had = texts[text].length();
        texts[text].setLength(0);
        return had;
    }

    int undo(int text) {
        if (!in(text, 0, 1)) {
            return -2;
        }
        if (texts[text].length() == 0) {
            return -3;
        }
        texts[text].setLength(texts[text].length() - 1);
        return texts[text].length();
    }

    /** The longest beginning that some well text begins with: behind it is the fault. */
    int fault(int text) {
        if (!in(text, 0, 1)) {
            return -2;
        }
        String all = texts[text].toString();
        Pattern well = text == 0 ? Pattern.compile("([.sn]|l[1-9]){0,16}") : Pattern.compile("([1-9][0-9][h.](;[1-9][0-9][h.]){0,5})?");
        if (well.matcher(all).matches()) {
            return -1;
        }
        for (int n = all.length(); n >= 0; n--) {
            Matcher m = well.matcher(all.substring(0, n));
            if (m.matches() || m.hitEnd()) {
                return n;
            }
        }
        return 0;
    }

    int part(int part, int what) {
        if (!isPart(part) || !in(what, 0, 1)) {
            return -2;
        }
        return what == 0 ? ".snl".indexOf(parts().get(part).charAt(0)) : scene().loose(part);
    }

    int walker(int walker, int what) {
        if (!isWalker(walker) || !in(what, 0, 2)) {
            return -2;
        }
        char c = walkers().get(walker).charAt(what);
        return what == 2 ? (c == 'h' ? 1 : 0) : c - '0';
    }

    int set(int what, int v) {
        if (!in(what, 0, 5) || !in(v, 0, MOST[what])) {
            return -2;
        }
        int was = settings[what];
        settings[what] = v;
        return was;
    }

    int place(int walker, int minute) {
        return isWalker(walker) && in(minute, 0, 1999) ? scene().place(walker, minute) : -2;
    }

    int treads(int walker, int part) {
        return isWalker(walker) && isPart(part) ? scene().odds(walker, part) : -2;
    }

    int hits(int from, int to, int helmet) {
        return isPart(from) && isPart(to) && in(helmet, 0, 1) ? scene().hits(from, to, helmet == 1) : -2;
    }

    long harm(int by, int to, int what) {
        if ((by != -1 && !isWalker(by)) || !isWalker(to) || by == to || !in(what, 0, 1)) {
            return BAD_LONG;
        }
        return told(by == -1 ? scene().bySun(to) : scene().byWalker(by, to), 256, what);
    }

    long all(int walker, int what) {
        if ((walker != -1 && !isWalker(walker)) || !in(what, 0, 1)) {
            return BAD_LONG;
        }
        return told(walker == -1 ? scene().together() : scene().toOne(walker), 256, what);
    }

    int ends() {
        return scene().ends();
    }

    int latest() {
        Scene s = scene();
        for (int b = 999; b >= 0; b--) {
            s.begin = b;
            if (s.ends() <= s.sun) {
                return b;
            }
        }
        return -1;
    }

    private long curveOf(int gap) {
        Scene s = scene();
        s.gap = gap;
        return s.together();
    }

    long curve(int gap, int what) {
        return in(gap, 0, 99) && in(what, 0, 1) ? told(curveOf(gap), 256, what) : BAD_LONG;
    }

    int gap(int most) {
        if (!in(most, 0, 99)) {
            return -2;
        }
        int best = 0;
        for (int g = 1; g <= most; g++) {
            if (curveOf(g) < curveOf(best)) {
                best = g;
            }
        }
        return best;
    }

    /** All rows of so many, each number once, in rising order. */
    private static List<List<Integer>> rows(int n) {
        List<List<Integer>> found = new ArrayList<>();
        grow(new ArrayList<>(), n, found);
        return found;
    }

    private static void grow(List<Integer> begun, int n, List<List<Integer>> found) {
        if (begun.size() == n) {
            found.add(new ArrayList<>(begun));
            return;
        }
        for (int i = 0; i < n; i++) {
            if (!begun.contains(i)) {
                begun.add(i);
                grow(begun, n, found);
                begun.remove(begun.size() - 1);
            }
        }
    }

    private long harmInRow(List<Integer> row) {
        Scene s = scene();
        List<String> walkers = s.row;
        s.row = new ArrayList<>();
        for (int w : row) {
            s.row.add(walkers.get(w));
        }
        return s.together();
    }

    private List<Integer> bestRow() {
        List<Integer> best = null;
        long least = 0;
        for (List<Integer> row : rows(walkers().size())) {
            long harm = harmInRow(row);
            if (best == null || harm < least) {
                least = harm;
                best = row;
            }
        }
        return best;
    }

    int order(int i) {
        if (!in(i, 0, 5)) {
            return -2;
        }
        List<Integer> best = bestRow();
        return i < best.size() ? best.get(i) : -1;
    }

    long ordered(int what) {
        return in(what, 0, 1) ? told(harmInRow(bestRow()), 256, what) : BAD_LONG;
    }

    private long harmWith(int bits) {
        Scene s = scene();
        for (int w = 0; w < s.row.size(); w++) {
            s.row.set(w, s.row.get(w).substring(0, 2) + ((bits & 1 << w) != 0 ? "h" : "."));
        }
        return s.together();
    }

    long helmets(int k, int what) {
        if (!in(k, 0, 6) || k > walkers().size() || !in(what, 0, 2)) {
            return BAD_LONG;
        }
        int best = -1;
        for (int bits = 0; bits < 64; bits++) {
            boolean asMany = Integer.bitCount(bits) == k && bits >> walkers().size() == 0;
            if (asMany && (best < 0 || harmWith(bits) < harmWith(best))) {
                best = bits;
            }
        }
        return what == 0 ? best : told(harmWith(best), 256, what - 1);
    }

    /** In 256ths too. */
    private long paid(int n, int ahead, int cost, int wait) {
        Scene s = scene();
        int theirBegin = s.begin - ahead;
        s.begin += wait;
        long hit = 0;
        for (int o = 0; o < n; o++) {
            for (int p = 0; p < s.parts.size(); p++) {
                for (int w = 0; w < s.row.size(); w++) {
                    boolean missed = s.zigzag == 1 && w % 2 == 1;
                    int odds = s.loose(p) == 0 ? 0 : oddsFor(s.loose(p), "55.");
                    hit += missed ? 0 : odds * s.hits(p, s.place(w, theirBegin + p), s.helmet(w));
                }
            }
        }
        return 256L * wait + cost * hit;
    }

    long waits(int n, int ahead, int cost, int what) {
        if (!in(n, 1, 6) || !in(ahead, 0, 99) || !in(cost, 0, 999) || !in(what, 0, 2)) {
            return BAD_LONG;
        }
        int best = 0;
        long least = paid(n, ahead, cost, 0);
        for (int w = 1; w <= 99; w++) {
            long paid = paid(n, ahead, cost, w);
            if (paid < least) {
                least = paid;
                best = w;
            }
        }
        return what == 0 ? best : told(least, 256, what - 1);
    }

    long foot(int part, int minute, int what) {
        if (!isPart(part) || !in(minute, 0, 1999) || !in(what, 0, 1)) {
            return BAD_LONG;
        }
        Scene s = scene();
        int feet = 0;
        for (int w = 0; w < s.row.size(); w++) {
            if (s.enters(w, minute) == part) {
                feet += s.odds(w, part);
            }
        }
        int sun = s.loose(part) > 0 && minute >= s.sun ? s.sunned : 0;
        return feet + sun == 0 ? Long.MIN_VALUE + 3 : told(feet, feet + sun, what);
    }

    int fell(int walker, int part, int is) {
        if (!in(walker, 0, 5) || !in(part, 0, 15) || !in(is, 0, 1)) {
            return -2;
        }
        if (fell.size() == 8) {
            return -4;
        }
        fell.add(new int[] {walker, part, is});
        return fell.size();
    }

    int forget() {
        int had = fell.size();
        fell.clear();
        return had;
    }

    int loose(int part) {
        if (!isPart(part)) {
            return -2;
        }
        int best = -1;
        BigInteger most = BigInteger.ZERO;
        for (int f = 1; f <= 9; f++) {
            BigInteger likely = BigInteger.ONE;
            for (int[] t : fell) {
                if (t[1] == part && isWalker(t[0])) {
                    int odds = oddsFor(f, walkers().get(t[0]));
                    likely = likely.multiply(BigInteger.valueOf(t[2] == 1 ? odds : 16 - odds));
                }
            }
            if (likely.compareTo(most) > 0) {
                most = likely;
                best = f;
            }
        }
        return best;
    }

    int read(int s) {
        if (!in(s, 0, 3)) {
            return -2;
        }
        if (sheets[s] == null) {
            return found(1);
        }
        int n = 0;
        while (3 * n + 3 <= java.lang.reflect.Array.getLength(sheets[s])) {
            if (fell(item(s, 3 * n), item(s, 3 * n + 1), item(s, 3 * n + 2)) < 0) {
                break;
            }
            n++;
        }
        return n;
    }

    private int item(int s, int i) {
        return java.lang.reflect.Array.getInt(sheets[s], i);
    }

    private int seed;

    private int lot(int m) {
        seed = 1103515245 * seed + 12345;
        return ((seed >> 16) & 0xffff) % m;
    }

    int morning(int firstSeed) {
        seed = firstSeed;
        Scene s = scene();
        int hit = 0;
        for (int m = s.begin; m < s.ends(); m++) {
            for (int w = 0; w < s.row.size(); w++) {
                int p = s.enters(w, m);
                if (p >= 0 && s.loose(p) > 0 && lot(16) < s.odds(w, p)) {
                    hit += stone(s, p, m, w);
                }
            }
            for (int p = 0; p < s.parts.size(); p++) {
                if (m >= s.sun && s.loose(p) > 0 && lot(16) < s.sunned) {
                    hit += stone(s, p, m, -1);
                }
            }
        }
        return hit;
    }

    private int stone(Scene s, int from, int minute, int by) {
        int hit = 0;
        for (int w = 0; w < s.row.size(); w++) {
            int sixteenths = s.hits(from, s.place(w, minute), s.helmet(w));
            if (by >= 0 && s.zigzag == 1 && by % 2 != w % 2) {
                sixteenths = 0;
            }
            if (sixteenths > 0 && lot(16) < sixteenths) {
                hit++;
            }
        }
        return hit;
    }

    private int found(int number) {
        finding = number;
        return -10 - number;
    }

    /** The FINDINGS are named after what the machine throws; here it throws them. */
    private int found(RuntimeException thrown) {
        if (thrown instanceof NullPointerException) {
            return found(1);
        }
        if (thrown instanceof IndexOutOfBoundsException) {
            return found(2);
        }
        if (thrown instanceof ClassCastException) {
            return found(3);
        }
        return found(thrown instanceof ArrayStoreException ? 4 : 5);
    }

    int sheet(int s, int form, int n) {
        if (!in(s, 0, 3) || !in(form, 0, 2) || n > 60) {
            return -2;
        }
        try {
            sheets[s] = form == 0 ? new byte[n] : form == 1 ? new short[n] : new int[n];
        } catch (NegativeArraySizeException e) {
            return found(e);
        }
        return n;
    }

    int lose(int s) {
        if (!in(s, 0, 3)) {
            return -2;
        }
        if (sheets[s] == null) {
            return found(1);
        }
        int had = java.lang.reflect.Array.getLength(sheets[s]);
        sheets[s] = null;
        return had;
    }

    int lay(int s, int form, int i, int v) {
        if (!in(s, 0, 3) || !in(form, 0, 2)) {
            return -2;
        }
        try {
            if (form == 0) {
                ((byte[]) sheets[s])[i] = (byte) v;
            } else if (form == 1) {
                ((short[]) sheets[s])[i] = (short) v;
            } else {
                ((int[]) sheets[s])[i] = v;
            }
        } catch (NullPointerException | ClassCastException | IndexOutOfBoundsException e) {
            return found(e);
        }
        return 1;
    }

    int get(int s, int form, int i) {
        if (!in(s, 0, 3) || !in(form, 0, 2)) {
            return Integer.MIN_VALUE;
        }
        try {
            return form == 0 ? ((byte[]) sheets[s])[i] : form == 1 ? ((short[]) sheets[s])[i] : ((int[]) sheets[s])[i];
        } catch (NullPointerException | ClassCastException | IndexOutOfBoundsException e) {
            found(e);
            return Integer.MIN_VALUE;
        }
    }

    int copy(int s, int i, int t, int j, int n) {
        if (!in(s, 0, 3) || !in(t, 0, 3)) {
            return -2;
        }
        try {
            System.arraycopy(sheets[s], i, sheets[t], j, n);
        } catch (NullPointerException | ArrayStoreException | IndexOutOfBoundsException e) {
            return found(e);
        }
        return 1;
    }

    int write(int minute, int s) {
        if (!in(minute, 0, 1999) || !in(s, 0, 3)) {
            return -2;
        }
        if (sheets[s] == null) {
            return found(1);
        }
        int n = 0;
        while (n < walkers().size() && n < java.lang.reflect.Array.getLength(sheets[s])) {
            int v = scene().place(n, minute);
            int form = sheets[s] instanceof byte[] ? 0 : sheets[s] instanceof short[] ? 1 : 2;
            lay(s, form, n, v);
            n++;
        }
        return n;
    }

    int count(int what) {
        switch (what) {
            case 0: return parts().size();
            case 1: return walkers().size();
            case 2: return texts[0].length();
            case 3: return texts[1].length();
            case 4: return fell.size();
            case 5: return parts().stream().mapToInt(p -> p.length() == 2 ? p.charAt(1) - '0' : 0).sum();
            case 6: return settings[0];
            case 7: return (int) walkers().stream().filter(w -> w.endsWith("h")).count();
            case 8: return finding;
            default: return -2;
        }
    }

    long digest() {
        List<Long> each = new ArrayList<>();
        for (int what = 0; what <= 7; what++) {
            each.add((long) count(what));
        }
        each.add((long) fault(0));
        each.add((long) fault(1));
        for (int p = 0; p < parts().size(); p++) {
            addAll(each, part(p, 0), part(p, 1), hits(p, 0, 0), hits(p, 0, 1), loose(p));
        }
        for (int w = 0; w < walkers().size(); w++) {
            addAll(each, walker(w, 0), walker(w, 1), walker(w, 2), place(w, 5), treads(w, 2));
            addAll(each, harm(0, w, 0), harm(0, w, 1), harm(-1, w, 0), harm(-1, w, 1), all(w, 0), all(w, 1));
        }
        addAll(each, all(-1, 0), all(-1, 1), ends(), latest(), curve(0, 0), curve(0, 1), gap(20));
        addAll(each, order(0), order(1), ordered(0), ordered(1));
        addAll(each, helmets(1, 0), helmets(1, 1), helmets(1, 2));
        addAll(each, waits(3, 2, 90, 0), waits(3, 2, 90, 1), waits(3, 2, 90, 2));
        addAll(each, foot(1, 1, 0), foot(1, 1, 1), morning(7));
        long h = 17;
        for (long v : each) {
            h = 31 * h + v;
        }
        return h;
    }

    private static void addAll(List<Long> each, long... more) {
        for (long v : more) {
            each.add(v);
        }
    }
}
