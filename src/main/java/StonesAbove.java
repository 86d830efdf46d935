import java.util.Arrays;

/**
 * Stones from those above: walkers one behind another in a loose gully, what each treads off,
 * whom that hits, and how to go so that the fewest are hit.
 *
 * HARM is held as a whole number of 256ths throughout (sixteenths of ODDS times sixteenths of
 * HITS), so that sums and comparisons are exact; it becomes a FRACTION only where it is told.
 */
public final class StonesAbove {
    public static final int NONE = -1, BAD = -2, NOT = -3, FULL = -4;

    private static final int GULLY_BYTES = 32;
    private static final int WALKERS_BYTES = 23;
    private static final int MOST_PARTS = 16;
    private static final int MOST_WALKERS = 6;
    private static final int MOST_GAP = 99;
    private static final int LATEST_BEGIN = 999;
    private static final int LAST_MINUTE = 1999;
    private static final int MOST_OTHERS = 6;
    private static final int MOST_AHEAD = 99;
    private static final int MOST_COST = 999;
    private static final int MOST_WAIT = 99;
    private static final int MOST_FELL = 8;
    private static final int SHEETS = 4;
    private static final int MOST_ITEMS = 60;

    private static final int FIRM = 0;
    private static final int SHELTER = 1;
    private static final int NARROW = 2;
    private static final int LOOSE = 3;

    private static final int GAP = 0;
    private static final int ZIGZAG = 1;
    private static final int LAG = 2;
    private static final int BEGIN = 3;
    private static final int SUN = 4;
    private static final int SUNNED = 5;

    private static final int NULL = 1;
    private static final int INDEX = 2;
    private static final int CAST = 3;
    private static final int STORE = 4;
    private static final int SIZE = 5;

    private static final int ABOVE = 0;
    private static final int BELOW = 1;

    private static final int LEAST_INT = -2147483648;
    private static final long LEAST_LONG = -9223372036854775808L;
    private static final long MOST_LONG = 9223372036854775807L;

    private static final int SIXTEENTHS = 16;
    private static final int HARM_BELOW = 256;

    private final Text gullyText;
    private final Text walkersText;
    private final Gully gully;
    private final Party party;
    private final Settings settings;
    private final Stones stones;
    private final Order bestOrder;
    private final Helmets bestHelmets;
    private final Others others;
    private final Morning played;
    private final Tellings tellings;
    private final Sheet[] sheets;
    private int finding;

    public StonesAbove() {
        gullyText = new Text(GULLY_BYTES);
        walkersText = new Text(WALKERS_BYTES);
        gully = new Gully();
        party = new Party();
        settings = new Settings();
        stones = new Stones(gully, party, settings);
        bestOrder = new Order(party, settings, stones);
        bestHelmets = new Helmets(party, settings, stones);
        others = new Others(party, settings, stones);
        played = new Morning(gully, party, settings, stones);
        tellings = new Tellings();
        sheets = new Sheet[SHEETS];
        for (int s = 0; s < sheets.length; s++) {
            sheets[s] = new Sheet();
        }
    }

    // ---- gully, walkers

    public int type(int text, int b) {
        Text typed = textAt(text);
        if (typed == null || !within(b, 0, 255)) {
            return BAD;
        }
        if (typed.isFull()) {
            return FULL;
        }
        typed.append(b);
        parseAnew();
        return typed.length();
    }

    public int wipe(int text) {
        Text wiped = textAt(text);
        if (wiped == null) {
            return BAD;
        }
        int had = wiped.length();
        wiped.shorten(had);
        parseAnew();
        return had;
    }

    public int undo(int text) {
        Text undone = textAt(text);
        if (undone == null) {
            return BAD;
        }
        if (undone.length() == 0) {
            return NOT;
        }
        undone.shorten(1);
        parseAnew();
        return undone.length();
    }

    public int fault(int text) {
        if (!within(text, 0, 1)) {
            return BAD;
        }
        return text == 0 ? gully.faultPlace() : party.faultPlace();
    }

    public int part(int part, int what) {
        if (!gully.has(part) || !within(what, 0, 1)) {
            return BAD;
        }
        return what == 0 ? gully.kindAt(part) : gully.loosenessAt(part);
    }

    public int walker(int walker, int what) {
        if (!party.has(walker) || !within(what, 0, 2)) {
            return BAD;
        }
        if (what == 0) {
            return party.weightOf(walker);
        }
        return what == 1 ? party.skillOf(walker) : party.helmetOf(walker);
    }

    public int set(int what, int v) {
        if (!settings.takes(what, v)) {
            return BAD;
        }
        int was = settings.change(what, v);
        stones.prepareSun();
        return was;
    }

    // ---- who is where, what falls

    public int place(int walker, int minute) {
        if (!party.has(walker) || !within(minute, 0, LAST_MINUTE)) {
            return BAD;
        }
        return stones.partOf(walker, minute);
    }

    public int treads(int walker, int part) {
        if (!party.has(walker) || !gully.has(part)) {
            return BAD;
        }
        return stones.oddsOf(walker, part);
    }

    public int hits(int from, int to, int helmet) {
        if (!gully.has(from) || !gully.has(to) || !within(helmet, 0, 1)) {
            return BAD;
        }
        return stones.struck(from, to, helmet);
    }

    public long harm(int by, int to, int what) {
        boolean byOne = by == NONE || party.has(by);
        if (!byOne || !party.has(to) || by == to || !within(what, ABOVE, BELOW)) {
            return refusal(BAD);
        }
        int helmet = party.helmetOf(to);
        long harm = by == NONE ? stones.bySun(to, helmet, settings.gap) : stones.byWalker(by, to, helmet);
        return fraction(harm, HARM_BELOW, what);
    }

    public long all(int walker, int what) {
        boolean one = party.has(walker);
        if ((!one && walker != NONE) || !within(what, ABOVE, BELOW)) {
            return refusal(BAD);
        }
        int gap = settings.gap;
        long harm = one ? stones.toWalker(walker, party.helmetOf(walker), gap) : stones.together(gap);
        return fraction(harm, HARM_BELOW, what);
    }

    public int ends() {
        return settings.begin + stones.minutesInAll();
    }

    public int latest() {
        int begin = Math.min(LATEST_BEGIN, settings.sun - stones.minutesInAll());
        return begin < 0 ? NONE : begin;
    }

    // ---- gaps, order, helmets

    public long curve(int gap, int what) {
        if (!within(gap, 0, MOST_GAP) || !within(what, ABOVE, BELOW)) {
            return refusal(BAD);
        }
        return fraction(stones.together(gap), HARM_BELOW, what);
    }

    public int gap(int most) {
        if (!within(most, 0, MOST_GAP)) {
            return BAD;
        }
        int best = 0;
        long least = stones.together(0);
        for (int g = 1; g <= most; g++) {
            long harm = stones.together(g);
            if (harm < least) {
                least = harm;
                best = g;
            }
        }
        return best;
    }

    public int order(int i) {
        if (!within(i, 0, MOST_WALKERS - 1)) {
            return BAD;
        }
        bestOrder.search();
        return bestOrder.at(i);
    }

    public long ordered(int what) {
        if (!within(what, ABOVE, BELOW)) {
            return refusal(BAD);
        }
        return fraction(bestOrder.search(), HARM_BELOW, what);
    }

    public long helmets(int k, int what) {
        if (!within(k, 0, party.size()) || !within(what, 0, 2)) {
            return refusal(BAD);
        }
        int bits = bestHelmets.search(k);
        return what == 0 ? bits : fraction(bestHelmets.harmWith(bits), HARM_BELOW, what - 1);
    }

    // ---- others, feet, mornings

    public long waits(int n, int ahead, int cost, int what) {
        boolean told = within(n, 1, MOST_OTHERS) && within(ahead, 0, MOST_AHEAD) && within(cost, 0, MOST_COST);
        if (!told || !within(what, 0, 2)) {
            return refusal(BAD);
        }
        int wait = others.bestWait(n, ahead, cost);
        return what == 0 ? wait : fraction(others.paid(n, ahead, cost, wait), HARM_BELOW, what - 1);
    }

    public long foot(int part, int minute, int what) {
        if (!gully.has(part) || !within(minute, 0, LAST_MINUTE) || !within(what, ABOVE, BELOW)) {
            return refusal(BAD);
        }
        int feet = stones.oddsOfFeet(part, minute);
        int every = feet + stones.oddsOfSun(part, minute);
        return every == 0 ? refusal(NOT) : fraction(feet, every, what);
    }

    public int fell(int walker, int part, int is) {
        if (!Tellings.fits(walker, part, is)) {
            return BAD;
        }
        if (tellings.isFull()) {
            return FULL;
        }
        tellings.add(walker, part, is);
        return tellings.size();
    }

    public int forget() {
        int had = tellings.size();
        tellings.clear();
        return had;
    }

    public int loose(int part) {
        if (!gully.has(part)) {
            return BAD;
        }
        return tellings.likeliest(part, party);
    }

    public int read(int s) {
        Sheet from = sheetAt(s);
        if (from == null) {
            return BAD;
        }
        if (from.isLost()) {
            return found(NULL);
        }
        int taken = 0;
        for (int i = 0; i + 2 < from.size(); i += 3) {
            if (tellings.isFull() || !Tellings.fits(from.item(i), from.item(i + 1), from.item(i + 2))) {
                break;
            }
            tellings.add(from.item(i), from.item(i + 1), from.item(i + 2));
            taken++;
        }
        return taken;
    }

    public int morning(int seed) {
        return played.play(seed);
    }

    // ---- sheets

    public int sheet(int s, int form, int n) {
        Sheet made = sheetAt(s);
        if (made == null || !Sheet.isForm(form) || n > MOST_ITEMS) {
            return BAD;
        }
        if (n < 0) {
            return found(SIZE);
        }
        made.renew(form, n);
        return n;
    }

    public int lose(int s) {
        Sheet lost = sheetAt(s);
        if (lost == null) {
            return BAD;
        }
        if (lost.isLost()) {
            return found(NULL);
        }
        int had = lost.size();
        lost.drop();
        return had;
    }

    public int lay(int s, int form, int i, int v) {
        Sheet laid = sheetAt(s);
        if (laid == null || !Sheet.isForm(form)) {
            return BAD;
        }
        int wrong = laid.wrongAt(form, i);
        if (wrong != 0) {
            return found(wrong);
        }
        laid.put(i, v);
        return 1;
    }

    public int get(int s, int form, int i) {
        Sheet asked = sheetAt(s);
        if (asked == null || !Sheet.isForm(form)) {
            return LEAST_INT;
        }
        int wrong = asked.wrongAt(form, i);
        if (wrong != 0) {
            found(wrong);
            return LEAST_INT;
        }
        return asked.item(i);
    }

    public int copy(int s, int i, int t, int j, int n) {
        Sheet from = sheetAt(s);
        Sheet to = sheetAt(t);
        if (from == null || to == null) {
            return BAD;
        }
        if (from.isLost() || to.isLost()) {
            return found(NULL);
        }
        if (!from.isLike(to)) {
            return found(STORE);
        }
        if (!from.holds(i, n) || !to.holds(j, n)) {
            return found(INDEX);
        }
        to.takeFrom(from, i, j, n);
        return 1;
    }

    public int write(int minute, int s) {
        Sheet to = sheetAt(s);
        if (to == null || !within(minute, 0, LAST_MINUTE)) {
            return BAD;
        }
        if (to.isLost()) {
            return found(NULL);
        }
        int written = Math.min(to.size(), party.size());
        for (int w = 0; w < written; w++) {
            to.put(w, stones.partOf(w, minute));
        }
        return written;
    }

    public int count(int what) {
        switch (what) {
            case 0: return gully.parts;
            case 1: return party.size();
            case 2: return gullyText.length();
            case 3: return walkersText.length();
            case 4: return tellings.size();
            case 5: return gully.loosenessInAll();
            case 6: return settings.gap;
            case 7: return party.helmetsInAll();
            case 8: return finding;
            default: return BAD;
        }
    }

    public long digest() {
        long h = 17;
        for (int what = 0; what <= 7; what++) {
            h = mix(h, count(what));
        }
        h = mix(mix(h, fault(0)), fault(1));
        for (int p = 0; p < gully.parts; p++) {
            h = mixPart(h, p);
        }
        for (int w = 0; w < party.size(); w++) {
            h = mixWalker(h, w);
        }
        h = mix(mix(h, all(NONE, ABOVE)), all(NONE, BELOW));
        h = mix(mix(h, ends()), latest());
        h = mix(mix(h, curve(0, ABOVE)), curve(0, BELOW));
        h = mixOrder(mix(h, gap(20)));
        for (int what = 0; what <= 2; what++) {
            h = mix(h, helmets(1, what));
        }
        for (int what = 0; what <= 2; what++) {
            h = mix(h, waits(3, 2, 90, what));
        }
        h = mix(mix(h, foot(1, 1, ABOVE)), foot(1, 1, BELOW));
        return mix(h, morning(7));
    }

    private static long mix(long h, long next) {
        return 31 * h + next;
    }

    private long mixPart(long h, int p) {
        long mixed = mix(mix(h, part(p, 0)), part(p, 1));
        mixed = mix(mix(mixed, hits(p, 0, 0)), hits(p, 0, 1));
        return mix(mixed, loose(p));
    }

    private long mixWalker(long h, int w) {
        long mixed = mix(mix(mix(h, walker(w, 0)), walker(w, 1)), walker(w, 2));
        mixed = mix(mix(mixed, place(w, 5)), treads(w, 2));
        mixed = mix(mix(mixed, harm(0, w, ABOVE)), harm(0, w, BELOW));
        mixed = mix(mix(mixed, harm(NONE, w, ABOVE)), harm(NONE, w, BELOW));
        return mix(mix(mixed, all(w, ABOVE)), all(w, BELOW));
    }

    /** Searches once for the four answers, as the search is the dearest act of a digest. */
    private long mixOrder(long h) {
        long least = bestOrder.search();
        long mixed = mix(mix(h, bestOrder.at(0)), bestOrder.at(1));
        return mix(mix(mixed, fraction(least, HARM_BELOW, ABOVE)), fraction(least, HARM_BELOW, BELOW));
    }

    private Text textAt(int text) {
        if (text == 0) {
            return gullyText;
        }
        return text == 1 ? walkersText : null;
    }

    private Sheet sheetAt(int s) {
        return s >= 0 && s < sheets.length ? sheets[s] : null;
    }

    /** At each change of a text, so that nothing that hangs on the texts lags behind them. */
    private void parseAnew() {
        gully.parse(gullyText);
        party.parse(walkersText);
        stones.prepareSun();
    }

    private int found(int number) {
        finding = number;
        return -10 - number;
    }

    private static boolean within(int v, int least, int most) {
        return v >= least && v <= most;
    }

    private static long refusal(int answer) {
        return LEAST_LONG - answer;
    }

    private static long fraction(long above, long below, int what) {
        long shared = greatestDivisor(above, below);
        if (shared <= 0) {
            return what == ABOVE ? 0 : 1;
        }
        return (what == ABOVE ? above : below) / shared;
    }

    /** Euclid's rule needs fewer than 100 steps for any two longs. */
    private static long greatestDivisor(long one, long other) {
        long a = one;
        long b = other;
        for (int step = 0; step < 100 && b != 0; step++) {
            long rest = a % b;
            a = b;
            b = rest;
        }
        return a;
    }

    /** Bytes typed one behind another. */
    private static final class Text {
        private final byte[] bytes = new byte[GULLY_BYTES];
        private final int most;
        private int length;

        Text(int most) {
            this.most = Math.min(most, GULLY_BYTES);
        }

        int length() {
            return length;
        }

        boolean isFull() {
            return length >= most;
        }

        void append(int b) {
            if (length >= 0 && length < most && length < bytes.length) {
                bytes[length] = (byte) b;
                length++;
            }
        }

        void shorten(int by) {
            length = Math.max(0, length - by);
        }

        /** NONE behind the end, which no text can go on with: so a text not ended has its fault there. */
        int byteAt(int i) {
            return i >= 0 && i < length && i < bytes.length ? bytes[i] & 255 : NONE;
        }

        /** The figure at a place; NONE where there is none. */
        int figureAt(int i) {
            int b = byteAt(i);
            return b >= '0' && b <= '9' ? b - '0' : NONE;
        }
    }

    /** The PARTS of the gully, as its text tells them. */
    private static final class Gully {
        private final int[] kinds = new int[MOST_PARTS];
        private final int[] looseness = new int[MOST_PARTS];
        int parts;
        private int fault = NONE;

        int faultPlace() {
            return fault;
        }

        boolean has(int part) {
            return part >= 0 && part < parts;
        }

        int kindAt(int part) {
            return part >= 0 && part < parts && part < kinds.length ? kinds[part] : FIRM;
        }

        int loosenessAt(int part) {
            return part >= 0 && part < parts && part < looseness.length ? looseness[part] : 0;
        }

        boolean isLoose(int part) {
            return loosenessAt(part) > 0;
        }

        int loosenessInAll() {
            int sum = 0;
            for (int p = 0; p < parts; p++) {
                sum += loosenessAt(p);
            }
            return sum;
        }

        void parse(Text text) {
            parts = 0;
            fault = NONE;
            int at = 0;
            for (int step = 0; step < GULLY_BYTES && at < text.length() && fault == NONE; step++) {
                int kind = kindOf(text.byteAt(at));
                if (kind == NONE || parts >= MOST_PARTS) {
                    fault = at;
                } else if (kind != LOOSE) {
                    add(kind, 0);
                    at++;
                } else if (text.figureAt(at + 1) < 1) {
                    fault = at + 1;
                } else {
                    add(LOOSE, text.figureAt(at + 1));
                    at += 2;
                }
            }
            if (fault != NONE) {
                parts = 0;
            }
        }

        private static int kindOf(int b) {
            switch (b) {
                case '.': return FIRM;
                case 's': return SHELTER;
                case 'n': return NARROW;
                case 'l': return LOOSE;
                default: return NONE;
            }
        }

        private void add(int kind, int loose) {
            if (parts >= 0 && parts < kinds.length && parts < looseness.length) {
                kinds[parts] = kind;
                looseness[parts] = loose;
                parts++;
            }
        }
    }

    /** The WALKERS, as their text tells them: each takes three bytes, and a fourth parts it from the next. */
    private static final class Party {
        private static final int STEP = 4;

        private final int[] weights = new int[MOST_WALKERS];
        private final int[] skills = new int[MOST_WALKERS];
        private final int[] helmets = new int[MOST_WALKERS];
        private int walkers;
        private int fault = NONE;

        int size() {
            return walkers;
        }

        int faultPlace() {
            return fault;
        }

        boolean has(int walker) {
            return walker >= 0 && walker < walkers;
        }

        int weightOf(int walker) {
            return walker >= 0 && walker < walkers && walker < weights.length ? weights[walker] : 0;
        }

        int skillOf(int walker) {
            return walker >= 0 && walker < walkers && walker < skills.length ? skills[walker] : 0;
        }

        int helmetOf(int walker) {
            return walker >= 0 && walker < walkers && walker < helmets.length ? helmets[walker] : 0;
        }

        int helmetsInAll() {
            int sum = 0;
            for (int w = 0; w < walkers; w++) {
                sum += helmetOf(w);
            }
            return sum;
        }

        /** By how many sixteenths this walker's ODDS are more than the PART is LOOSE. */
        int oddsMore(int walker) {
            return weightOf(walker) / 3 - skillOf(walker) / 3;
        }

        void parse(Text text) {
            walkers = 0;
            fault = faultOf(text);
            if (fault != NONE) {
                return;
            }
            for (int at = 0; at < text.length() && at < WALKERS_BYTES; at += STEP) {
                add(text.figureAt(at), text.figureAt(at + 1), text.byteAt(at + 2) == 'h' ? 1 : 0);
            }
        }

        private static int faultOf(Text text) {
            for (int at = 0; at < text.length() && at < WALKERS_BYTES; at++) {
                if (!fitsAt(text, at)) {
                    return at;
                }
            }
            boolean ended = text.length() == 0 || text.length() % STEP == STEP - 1;
            return ended ? NONE : text.length();
        }

        private static boolean fitsAt(Text text, int at) {
            switch (at % STEP) {
                case 0: return text.figureAt(at) >= 1;
                case 1: return text.figureAt(at) >= 0;
                case 2: return text.byteAt(at) == 'h' || text.byteAt(at) == '.';
                default: return text.byteAt(at) == ';';
            }
        }

        private void add(int weight, int skill, int helmet) {
            if (walkers >= 0 && walkers < weights.length && walkers < skills.length && walkers < helmets.length) {
                weights[walkers] = weight;
                skills[walkers] = skill;
                helmets[walkers] = helmet;
                walkers++;
            }
        }
    }

    /** What set() sets: it takes only what is within these bounds, so all else may rely on them. */
    private static final class Settings {
        private static final int[] MOST = {99, 1, 16, 999, 1999, 16};

        int gap = 1;
        int zigzag = 0;
        int lag = 16;
        int begin = 0;
        int sun = LAST_MINUTE;
        int sunned = 1;

        boolean takes(int what, int v) {
            return what >= 0 && what < MOST.length && v >= 0 && v <= MOST[what];
        }

        /** Answers what it was. */
        int change(int what, int v) {
            int was = NONE;
            switch (what) {
                case GAP: was = gap; gap = v; break;
                case ZIGZAG: was = zigzag; zigzag = v; break;
                case LAG: was = lag; lag = v; break;
                case BEGIN: was = begin; begin = v; break;
                case SUN: was = sun; sun = v; break;
                case SUNNED: was = sunned; sunned = v; break;
                default: break;
            }
            return was;
        }

        int pace() {
            return zigzag == 1 ? 2 : 1;
        }
    }

    /** Who is where, what falls and whom that hits, and the HARM of it in 256ths. */
    private static final class Stones {
        private final Gully gully;
        private final Party party;
        private final Settings settings;
        /** By PART and helmet: the sixteenths by which one there is hit, over stones from all LOOSE PARTS. */
        private final int[] fromAbove = new int[2 * MOST_PARTS];

        Stones(Gully gully, Party party, Settings settings) {
            this.gully = gully;
            this.party = party;
            this.settings = settings;
        }

        /** From BEGIN till the last is out above. */
        int minutesInAll() {
            if (party.size() == 0 || gully.parts == 0) {
                return 0;
            }
            return (party.size() - 1) * settings.gap + gully.parts * settings.pace();
        }

        int partOf(int walker, int minute) {
            return partAfter(minute - settings.begin - walker * settings.gap);
        }

        /** The PART of a walker that began so many minutes ago. */
        private int partAfter(int minutes) {
            if (minutes < 0) {
                return NONE;
            }
            int part = settings.zigzag == 1 ? minutes / 2 : minutes;
            return part < gully.parts ? part : NONE;
        }

        /** The PART into which a walker comes just in this minute. */
        int partEntered(int walker, int minute) {
            int part = partOf(walker, minute);
            return part == partOf(walker, minute - 1) ? NONE : part;
        }

        static int odds(int looseness, int more) {
            if (looseness <= 0) {
                return 0;
            }
            return Math.max(0, Math.min(SIXTEENTHS, looseness + more));
        }

        int oddsOf(int walker, int part) {
            return odds(gully.loosenessAt(part), party.oddsMore(walker));
        }

        int oddsOfFeet(int part, int minute) {
            int sum = 0;
            for (int w = 0; w < party.size(); w++) {
                if (partEntered(w, minute) == part) {
                    sum += oddsOf(w, part);
                }
            }
            return sum;
        }

        int oddsOfSun(int part, int minute) {
            return gully.isLoose(part) && minute >= settings.sun ? settings.sunned : 0;
        }

        /** By how many sixteenths a stone hits; ZIGZAG aside. */
        int struck(int from, int to, int helmet) {
            int kind = gully.kindAt(to);
            if (to < 0 || to >= from || kind == SHELTER) {
                return 0;
            }
            int fall = from - to;
            int sixteenths = kind == NARROW ? Math.min(SIXTEENTHS, 2 * fall) : fall;
            if (fall > settings.lag) {
                sixteenths /= 2;
            }
            return helmet == 1 ? sixteenths / 2 : sixteenths;
        }

        /** Whether two of these numbers go on different sides, so that neither's stones hit the other. */
        boolean areApart(int one, int other) {
            return settings.zigzag == 1 && ((one ^ other) & 1) == 1;
        }

        /** HARM by one that begins so many minutes ahead of a walker; more is what its feet add to ODDS. */
        long byFeet(int more, int ahead, int pace, int helmet) {
            if (ahead >= gully.parts * pace) {
                return 0; // it is out above before the walker comes in
            }
            long harm = 0;
            for (int p = 0; p < gully.parts; p++) {
                int odds = odds(gully.loosenessAt(p), more);
                if (odds > 0) {
                    harm += odds * struck(p, partAfter(p * pace - ahead), helmet);
                }
            }
            return harm;
        }

        long byWalker(int by, int to, int helmet) {
            if (areApart(by, to)) {
                return 0;
            }
            return byFeet(party.oddsMore(by), (to - by) * settings.gap, settings.pace(), helmet);
        }

        /** At each change of a text or a setting; the searches ask for these sums many times over. */
        void prepareSun() {
            for (int i = 0; i < fromAbove.length; i++) {
                int sum = 0;
                for (int from = i / 2 + 1; from < gully.parts; from++) {
                    if (gully.isLoose(from)) {
                        sum += struck(from, i / 2, i % 2);
                    }
                }
                fromAbove[i] = sum;
            }
        }

        /** HARM by the SUN to one that goes as this number. */
        long bySun(int number, int helmet, int gap) {
            long harm = 0;
            int pace = settings.pace();
            for (int p = 0; p < gully.parts; p++) {
                int out = settings.begin + number * gap + (p + 1) * pace;
                int sunny = Math.max(0, Math.min(pace, out - settings.sun));
                int i = 2 * p + helmet;
                if (i >= 0 && i < fromAbove.length) {
                    harm += sunny * settings.sunned * fromAbove[i];
                }
            }
            return harm;
        }

        /** HARM by all; who begins later, at the same PACE, is never above, so only lower numbers count. */
        long toWalker(int to, int helmet, int gap) {
            long harm = bySun(to, helmet, gap);
            for (int by = 0; by < to; by++) {
                if (!areApart(by, to)) {
                    harm += byFeet(party.oddsMore(by), (to - by) * gap, settings.pace(), helmet);
                }
            }
            return harm;
        }

        long together(int gap) {
            long harm = 0;
            for (int to = 0; to < party.size(); to++) {
                harm += toWalker(to, party.helmetOf(to), gap);
            }
            return harm;
        }
    }

    /**
     * The search for ORDER. HARM by one to another hangs only on how many places it goes ahead, so it
     * is reckoned once for each number of places, and the rows only add it up.
     */
    private static final class Order {
        private final Party party;
        private final Settings settings;
        private final Stones stones;
        private final long[] feet = new long[MOST_WALKERS * MOST_WALKERS * 2];
        private final long[] suns = new long[MOST_WALKERS * 2];
        private final int[] row = new int[MOST_WALKERS];
        private final int[] best = new int[MOST_WALKERS];
        private long least;

        Order(Party party, Settings settings, Stones stones) {
            this.party = party;
            this.settings = settings;
            this.stones = stones;
        }

        /** The HARM of the best row, which at() tells then. */
        long search() {
            prepare();
            least = MOST_LONG;
            extend(0, 0, 0);
            return least;
        }

        int at(int i) {
            return party.has(i) && i < best.length ? best[i] : NONE;
        }

        private void prepare() {
            for (int i = 0; i < suns.length; i++) {
                suns[i] = stones.bySun(i / 2, i % 2, settings.gap);
            }
            for (int i = 0; i < feet.length; i++) {
                int by = i / (2 * MOST_WALKERS);
                int places = i / 2 % MOST_WALKERS;
                boolean mayHit = party.has(by) && !stones.areApart(0, places);
                int ahead = places * settings.gap;
                feet[i] = mayHit ? stones.byFeet(party.oddsMore(by), ahead, settings.pace(), i % 2) : 0;
            }
        }

        /** Rows come in rising order, and no walker more makes HARM less: what is not below least is left. */
        private void extend(int filled, int used, long harm) {
            if (harm >= least) {
                return;
            }
            if (filled < party.size()) {
                tryEach(filled, used, harm);
            } else {
                least = harm;
                System.arraycopy(row, 0, best, 0, row.length);
            }
        }

        private void tryEach(int filled, int used, long harm) {
            if (filled < 0 || filled >= row.length) {
                return;
            }
            for (int w = 0; w < party.size(); w++) {
                if ((used >> w & 1) == 0) {
                    row[filled] = w;
                    extend(filled + 1, used | 1 << w, harm + harmAt(filled, party.helmetOf(w)));
                }
            }
        }

        /** HARM by the SUN and by those that go ahead to one who goes as this number. */
        private long harmAt(int number, int helmet) {
            int sun = 2 * number + helmet;
            long harm = sun >= 0 && sun < suns.length ? suns[sun] : 0;
            for (int ahead = 0; ahead < number && ahead < row.length; ahead++) {
                int i = (row[ahead] * MOST_WALKERS + number - ahead) * 2 + helmet;
                if (i >= 0 && i < feet.length) {
                    harm += feet[i];
                }
            }
            return harm;
        }
    }

    /** The search for HELMETS. Whom a helmet helps hangs on no other helmet, so HARM is summed walker by walker. */
    private static final class Helmets {
        private final Party party;
        private final Settings settings;
        private final Stones stones;
        private final long[] harms = new long[MOST_WALKERS * 2];

        Helmets(Party party, Settings settings, Stones stones) {
            this.party = party;
            this.settings = settings;
            this.stones = stones;
        }

        /** The bits of the best k walkers; harmWith() then tells the HARM of any bits. */
        int search(int k) {
            for (int i = 0; i < harms.length; i++) {
                harms[i] = party.has(i / 2) ? stones.toWalker(i / 2, i % 2, settings.gap) : 0;
            }
            int best = 0;
            long least = MOST_LONG;
            for (int bits = 0; bits < 1 << party.size(); bits++) {
                if (Integer.bitCount(bits) == k && harmWith(bits) < least) {
                    least = harmWith(bits);
                    best = bits;
                }
            }
            return best;
        }

        long harmWith(int bits) {
            long harm = 0;
            for (int w = 0; w < party.size(); w++) {
                int i = 2 * w + (bits >> w & 1);
                if (i >= 0 && i < harms.length) {
                    harm += harms[i];
                }
            }
            return harm;
        }
    }

    /** OTHERS above, and how long to wait for them. What is paid is held in 256ths like HARM. */
    private static final class Others {
        /** WEIGHT 5 and SKILL 5 cancel out. */
        private static final int ODDS_MORE = 5 / 3 - 5 / 3;
        private static final int PACE = 1;

        private final Party party;
        private final Settings settings;
        private final Stones stones;

        Others(Party party, Settings settings, Stones stones) {
            this.party = party;
            this.settings = settings;
            this.stones = stones;
        }

        /** Waiting alone costs w, so the search ends where w is as dear as the best. */
        int bestWait(int n, int ahead, int cost) {
            int best = 0;
            long least = paid(n, ahead, cost, 0);
            for (int w = 1; w <= MOST_WAIT && (long) w * HARM_BELOW < least; w++) {
                long paid = paid(n, ahead, cost, w);
                if (paid < least) {
                    least = paid;
                    best = w;
                }
            }
            return best;
        }

        long paid(int n, int ahead, int cost, int wait) {
            long harm = 0;
            for (int w = 0; w < party.size(); w++) {
                if (!stones.areApart(0, w)) {
                    int behind = ahead + wait + w * settings.gap;
                    harm += n * stones.byFeet(ODDS_MORE, behind, PACE, party.helmetOf(w));
                }
            }
            return (long) wait * HARM_BELOW + cost * harm;
        }
    }

    /** One MORNING, played by LOTS of a SEED. */
    private static final class Morning {
        private final Gully gully;
        private final Party party;
        private final Settings settings;
        private final Stones stones;
        private int seed;
        private int hit;

        Morning(Gully gully, Party party, Settings settings, Stones stones) {
            this.gully = gully;
            this.party = party;
            this.settings = settings;
            this.stones = stones;
        }

        int play(int firstSeed) {
            seed = firstSeed;
            hit = 0;
            int end = settings.begin + stones.minutesInAll();
            for (int minute = settings.begin; minute < end; minute++) {
                playFeet(minute);
                playSun(minute);
            }
            return hit;
        }

        private int lotOfSixteen() {
            seed = 1103515245 * seed + 12345;
            return (seed >>> 16) % SIXTEENTHS;
        }

        private void playFeet(int minute) {
            for (int w = 0; w < party.size(); w++) {
                int part = stones.partEntered(w, minute);
                if (gully.isLoose(part) && lotOfSixteen() < stones.oddsOf(w, part)) {
                    drop(part, minute, w);
                }
            }
        }

        private void playSun(int minute) {
            if (minute < settings.sun) {
                return;
            }
            for (int p = 0; p < gully.parts; p++) {
                if (gully.isLoose(p) && lotOfSixteen() < settings.sunned) {
                    drop(p, minute, NONE);
                }
            }
        }

        private void drop(int from, int minute, int by) {
            for (int w = 0; w < party.size(); w++) {
                boolean missed = by != NONE && stones.areApart(by, w);
                int sixteenths = missed ? 0 : stones.struck(from, stones.partOf(w, minute), party.helmetOf(w));
                if (sixteenths > 0 && lotOfSixteen() < sixteenths) {
                    hit++;
                }
            }
        }
    }

    /** FELL: what was told of walkers that came into PARTS. */
    private static final class Tellings {
        private final int[] walkers = new int[MOST_FELL];
        private final int[] parts = new int[MOST_FELL];
        private final int[] stonesFell = new int[MOST_FELL];
        private int told;

        static boolean fits(int walker, int part, int is) {
            return within(walker, 0, MOST_WALKERS - 1) && within(part, 0, MOST_PARTS - 1) && within(is, 0, 1);
        }

        int size() {
            return told;
        }

        boolean isFull() {
            return told >= MOST_FELL;
        }

        void clear() {
            told = 0;
        }

        void add(int walker, int part, int is) {
            if (told >= 0 && told < walkers.length && told < parts.length && told < stonesFell.length) {
                walkers[told] = walker;
                parts[told] = part;
                stonesFell[told] = is;
                told++;
            }
        }

        int likeliest(int part, Party party) {
            int best = NONE;
            long most = 0;
            for (int figure = 1; figure <= 9; figure++) {
                long likely = likelihood(figure, part, party);
                if (likely > most) {
                    most = likely;
                    best = figure;
                }
            }
            return best;
        }

        /** A product of sixteenths, 2 to the 32nd at most; each figure has as many factors, so they compare. */
        private long likelihood(int figure, int part, Party party) {
            long product = 1;
            for (int i = 0; i < told && i < walkers.length && i < parts.length && i < stonesFell.length; i++) {
                if (parts[i] == part && party.has(walkers[i])) {
                    int odds = Stones.odds(figure, party.oddsMore(walkers[i]));
                    product *= stonesFell[i] == 1 ? odds : SIXTEENTHS - odds;
                }
            }
            return product;
        }
    }

    /** A SHEET: LOST, or a row of a FORM. Its room is kept and used again by each new row. */
    private static final class Sheet {
        private static final int BYTES = 0;
        private static final int SHORTS = 1;
        private static final int INTS = 2;

        private final int[] items = new int[MOST_ITEMS];
        private int form = NONE;
        private int size;

        static boolean isForm(int form) {
            return form >= BYTES && form <= INTS;
        }

        boolean isLost() {
            return form == NONE;
        }

        boolean isLike(Sheet other) {
            return form == other.form;
        }

        int size() {
            return size;
        }

        void renew(int newForm, int n) {
            form = newForm;
            size = Math.max(0, Math.min(n, MOST_ITEMS));
            Arrays.fill(items, 0);
        }

        void drop() {
            form = NONE;
            size = 0;
        }

        /** The FINDING for an item treated as of a FORM; 0 where all is well. */
        int wrongAt(int asForm, int i) {
            if (isLost()) {
                return NULL;
            }
            if (form != asForm) {
                return CAST;
            }
            return holds(i, 1) ? 0 : INDEX;
        }

        /** Whether there are n items from i on; taken from the size, as i and n together may wrap. */
        boolean holds(int i, int n) {
            return i >= 0 && n >= 0 && n <= size && i <= size - n;
        }

        int item(int i) {
            return i >= 0 && i < size && i < items.length ? items[i] : 0;
        }

        void put(int i, int v) {
            if (i >= 0 && i < size && i < items.length) {
                items[i] = cut(v);
            }
        }

        private int cut(int v) {
            if (form == BYTES) {
                return (byte) v;
            }
            return form == SHORTS ? (short) v : v;
        }

        void takeFrom(Sheet other, int i, int j, int n) {
            if (other.holds(i, n) && holds(j, n)) {
                System.arraycopy(other.items, i, items, j, n);
            }
        }
    }
}
