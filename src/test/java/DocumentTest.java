import java.io.IOException;
import java.lang.reflect.Method;
import java.lang.reflect.Modifier;
import java.nio.file.Files;
import java.nio.file.Path;
import java.util.Set;
import java.util.TreeSet;
import java.util.regex.Matcher;
import java.util.regex.Pattern;
import java.util.stream.Collectors;
import java.util.stream.Stream;

/**
 * The document from its first line to its last, one scene through all of it, answers reckoned by
 * hand: PARTS l2 . n s l7, so stones from 4 HIT 0 by 4, 1 by 3, 2 by 4, 3 by none (with a helmet 2, 1, 2);
 * three WALKERS whose ODDS at 4 are 8, 5 and 7, at 0 are 3, 0 and 2; the second has the helmet.
 */
public final class DocumentTest {
    private static final String GULLY = "l2.nsl7";
    private static final String WALKERS = "63.;18h;99.";

    public static void main(String[] args) throws Exception {
        face();
        texts();
        places();
        stones();
        sun();
        ends();
        gaps();
        orders();
        helmets();
        others();
        othersByZigzag();
        feet();
        fell();
        morning();
        sheets();
        counts();
        digest();
        Check.end();
    }

    private static StonesAbove scene() {
        return Check.with(GULLY, WALKERS);
    }

    private static void due(String call, long got, long want) {
        Check.due(call, got, want);
    }

    /** The constants and methods as the document writes them, and no other public ones. */
    private static void face() throws IOException {
        String text = Files.readString(Path.of("../shared/DOC.md"));
        String told = text.substring(text.indexOf("public final class StonesAbove {"));
        told = told.substring(0, told.indexOf("\n}"));
        Set<String> due = new TreeSet<>();
        Matcher m = Pattern.compile("public (int|long) (\\w+)\\((.*?)\\);").matcher(told);
        while (m.find()) {
            String kinds = m.group(3).replaceAll(" \\w+(,|$)", "$1").replace(" ", "");
            due.add("public " + m.group(1) + " StonesAbove." + m.group(2) + "(" + kinds + ")");
        }
        Set<String> there = Stream.of(StonesAbove.class.getDeclaredMethods())
            .filter(method -> !Modifier.isPrivate(method.getModifiers())).map(Method::toString).collect(Collectors.toCollection(TreeSet::new));
        due("the face: 34 methods", due.size(), 34);
        due("the face: " + there, there.equals(due) ? 1 : 0, 1);
        Matcher constant = Pattern.compile("(\\w+) = (-\\d)").matcher(told);
        int constants = 0;
        while (constant.find()) {
            constants++;
            due(constant.group(1), constantOf(constant.group(1)), Integer.parseInt(constant.group(2)));
        }
        due("the face: 4 constants", constants, 4);
    }

    private static int constantOf(String name) {
        try {
            return StonesAbove.class.getField(name).getInt(null);
        } catch (ReflectiveOperationException e) {
            return 0;
        }
    }

    private static void texts() {
        StonesAbove x = new StonesAbove();
        due("1 no GULLY", x.count(0), 0);
        due("1 all SHEETS are LOST", x.lose(0) + x.lose(1) + x.lose(2) + x.lose(3), -44);
        Check.type(x, 0, GULLY);
        Check.type(x, 1, WALKERS);
        due("5 the GULLY is well", x.fault(0), -1);
        due("5 the WALKERS are well", x.fault(1), -1);
        int[] kinds = {3, 0, 2, 1, 3};
        int[] loose = {2, 0, 0, 0, 7};
        for (int p = 0; p < 5; p++) {
            due("6 kind of " + p, x.part(p, 0), kinds[p]);
            due("6 LOOSE " + p, x.part(p, 1), loose[p]);
        }
        due("6 no sixth", x.part(5, 0), -2);
        int[] told = {6, 3, 0, 1, 8, 1, 9, 9, 0};
        for (int i = 0; i < 9; i++) {
            due("7 walker(" + i / 3 + ", " + i % 3 + ")", x.walker(i / 3, i % 3), told[i]);
        }
        due("7 no fourth", x.walker(3, 0), -2);
        due("2 how many", x.type(0, 'l'), 8);
        due("5 not ended: its end", x.fault(0), 8);
        due("with a FAULT as if empty", x.count(0) + x.ends(), 0);
        due("2 bytes stay though", x.count(2), 8);
        due("4 how many are left", x.undo(0), 7);
        due("4 undone", x.count(0), 5);
        due("3 how many it had", x.wipe(1), 11);
        due("4 NOT: it is empty", x.undo(1), -3);
    }

    private static void places() {
        StonesAbove x = scene();
        x.set(0, 3);
        x.set(3, 10);
        due("9 not yet in", x.place(1, 12), -1);
        due("9 comes in", x.place(1, 13), 0);
        due("9 a PACE is a minute", x.place(1, 17), 4);
        due("9 already out above", x.place(1, 18), -1);
        x.set(1, 1);
        due("9 ZIGZAG: PACE is 2", x.place(1, 14), 0);
        due("9 ZIGZAG: cut", x.place(1, 16), 1);
        due("9 ZIGZAG: last", x.place(1, 22), 4);
        due("9 ZIGZAG: out", x.place(1, 23), -1);
    }

    private static void stones() {
        StonesAbove x = scene();
        int[] odds = {3, 8, 0, 5, 2, 7};
        int[] hits = {4, 3, 4, 0, 0};
        int[] halves = {2, 1, 2, 0, 0};
        for (int w = 0; w < 3; w++) {
            due("10 treads(" + w + ", 0)", x.treads(w, 0), odds[2 * w]);
            due("10 treads(" + w + ", 4)", x.treads(w, 4), odds[2 * w + 1]);
            due("10 not LOOSE", x.treads(w, 2), 0);
        }
        for (int p = 0; p < 5; p++) {
            due("11 hits(4, " + p + ", 0)", x.hits(4, p, 0), hits[p]);
            due("11 hits(4, " + p + ", 1)", x.hits(4, p, 1), halves[p]);
        }
        x.set(2, 2);
        due("11 LAG: by more than 2", x.hits(4, 1, 0), 1);
        due("11 LAG: not by more than 2", x.hits(4, 2, 0), 4);
        due("11 LAG, then a helmet", x.hits(4, 0, 1), 1);
        x.set(2, 16);
        Check.dueFraction("12 who comes next is in the shelter", x.harm(0, 1, 0), x.harm(0, 1, 1), 0, 1);
        Check.dueFraction("12 the third is in the narrow", x.harm(0, 2, 0), x.harm(0, 2, 1), 1, 8);
        Check.dueFraction("12 nothing falls upwards", x.harm(2, 0, 0), x.harm(2, 0, 1), 0, 1);
        Check.dueFraction("13 of all", x.all(-1, 0), x.all(-1, 1), 1, 8);
        x.set(0, 2);
        x.set(1, 1);
        Check.dueFraction("12 ZIGZAG: one odd, one even", x.harm(0, 1, 0), x.harm(0, 1, 1), 0, 1);
        Check.dueFraction("12 ZIGZAG: both even", x.harm(0, 2, 0), x.harm(0, 2, 1), 1, 8);
    }

    private static void sun() {
        StonesAbove x = scene();
        x.set(4, 2);
        x.set(5, 3);
        int[] bySun = {12, 9, 33};
        int[] byAll = {12, 9, 65};
        for (int w = 0; w < 3; w++) {
            Check.dueOf256("12 by the SUN to " + w, x.harm(-1, w, 0), x.harm(-1, w, 1), bySun[w]);
            Check.dueOf256("13 by all to " + w, x.all(w, 0), x.all(w, 1), byAll[w]);
        }
        Check.dueFraction("13 of all together", x.all(-1, 0), x.all(-1, 1), 43, 128);
        x.set(1, 1);
        x.set(4, 4);
        int[] zigzag = {24, 15, 42};
        for (int w = 0; w < 3; w++) {
            Check.dueOf256("12 ZIGZAG or not, to " + w, x.harm(-1, w, 0), x.harm(-1, w, 1), zigzag[w]);
        }
    }

    private static void ends() {
        StonesAbove x = scene();
        due("14 the last is out", x.ends(), 7);
        due("14 and was in before", x.place(2, 6), 4);
        due("14 and is not in then", x.place(2, 7), -1);
        int[][] latest = {{6, -1}, {7, 0}, {1005, 998}, {1006, 999}, {1007, 999}, {1999, 999}};
        for (int[] told : latest) {
            x.set(4, told[0]);
            due("15 SUN at " + told[0], x.latest(), told[1]);
        }
        x.set(3, 500);
        due("14 behind BEGIN", x.ends(), 507);
        due("15 whatever BEGIN is", x.latest(), 999);
        x.set(1, 1);
        due("14 ZIGZAG", x.ends(), 512);
        x.wipe(0);
        due("14 no PARTS: BEGIN", x.ends(), 500);
    }

    private static void gaps() {
        StonesAbove x = scene();
        int[] curve = {0, 32, 68, 23, 36, 0, 0};
        for (int g = 0; g < curve.length; g++) {
            Check.dueOf256("16 curve(" + g + ")", x.curve(g, 0), x.curve(g, 1), curve[g]);
        }
        due("17 of like ones the least", x.gap(99), 0);
        due("16 GAP stays", x.count(6), 1);
    }

    /** At GAP 1 the first HITS the third alone; 7 by 2 is the least product. */
    private static void orders() {
        StonesAbove x = scene();
        int[] row = {2, 0, 1, -1, -1, -1};
        for (int i = 0; i < 6; i++) {
            due("18 order(" + i + ")", x.order(i), row[i]);
        }
        Check.dueFraction("19 that HARM", x.ordered(0), x.ordered(1), 7, 128);
        x.set(0, 0);
        for (int i = 0; i < 3; i++) {
            due("18 of like ones the least row", x.order(i), i);
        }
        Check.dueFraction("19 none", x.ordered(0), x.ordered(1), 0, 1);
    }

    private static void helmets() {
        StonesAbove x = scene();
        int[] bits = {0, 4, 5, 7};
        int[] harm = {32, 16, 16, 16};
        for (int k = 0; k < 4; k++) {
            due("20 helmets(" + k + ")", x.helmets(k, 0), bits[k]);
            Check.dueOf256("20 that HARM", x.helmets(k, 1), x.helmets(k, 2), harm[k]);
        }
        due("20 no more than WALKERS", x.helmets(4, 0), Check.BAD_LONG);
        due("20 who has one now keeps it", x.walker(1, 2), 1);
    }

    /** Two OTHERS a minute ahead HIT by 70, 126, 70, 56 and 0 of 256 for waits of 0 to 4. */
    private static void others() {
        StonesAbove x = scene();
        due("21 cheap: at once", x.waits(2, 1, 10, 0), 0);
        Check.dueFraction("21 what is paid", x.waits(2, 1, 10, 1), x.waits(2, 1, 10, 2), 175, 64);
        due("21 dear: till they are out", x.waits(2, 1, 20, 0), 4);
        Check.dueFraction("21 what is paid", x.waits(2, 1, 20, 1), x.waits(2, 1, 20, 2), 4, 1);
        due("21 further ahead", x.waits(2, 4, 20, 0), 1);
        due("21 far ahead", x.waits(2, 5, 999, 0), 0);
        x.set(4, 0);
        due("21 the SUN aside", x.waits(2, 1, 20, 1), 4);
    }

    /** OTHERS keep PACE 1 and HIT even numbers alone: 98, 98, 56, 56, 0. */
    private static void othersByZigzag() {
        StonesAbove x = scene();
        x.set(1, 1);
        due("21 ZIGZAG: at once", x.waits(2, 1, 5, 0), 0);
        Check.dueFraction("21 ZIGZAG: what is paid", x.waits(2, 1, 5, 1), x.waits(2, 1, 5, 2), 245, 128);
        due("21 ZIGZAG: dear", x.waits(2, 1, 20, 0), 4);
    }

    private static void feet() {
        StonesAbove x = scene();
        x.set(4, 4);
        x.set(5, 3);
        Check.dueFraction("22 WALKER 0 or the SUN", x.foot(4, 4, 0), x.foot(4, 4, 1), 8, 11);
        Check.dueFraction("22 WALKER 1 or the SUN", x.foot(4, 5, 0), x.foot(4, 5, 1), 5, 8);
        Check.dueFraction("22 a WALKER alone", x.foot(0, 2, 0), x.foot(0, 2, 1), 1, 1);
        Check.dueFraction("22 the SUN alone", x.foot(0, 4, 0), x.foot(0, 4, 1), 0, 1);
        due("22 ODDS of 0, no SUN: NOT", x.foot(0, 1, 0), Check.NOT_LONG);
        due("22 firm: NOT", x.foot(1, 4, 0), Check.NOT_LONG);
        x.set(0, 0);
        Check.dueFraction("22 three at once", x.foot(4, 4, 0), x.foot(4, 4, 1), 20, 23);
        x.set(0, 2);
        x.set(1, 1);
        Check.dueFraction("22 ZIGZAG: in, but not just come", x.foot(4, 9, 0), x.foot(4, 9, 1), 0, 1);
    }

    private static void fell() {
        StonesAbove x = scene();
        due("25 nothing told: the least", x.loose(1), 1);
        due("23 how many", x.fell(2, 1, 1), 1);
        due("25 all fell", x.loose(1), 9);
        due("23 how many", x.fell(2, 1, 0), 2);
        due("25 8 by 8 is the most", x.loose(1), 8);
        due("25 another PART", x.loose(2), 1);
        x.fell(3, 1, 0);
        due("25 others aside", x.loose(1), 8);
        due("24 how many", x.forget(), 3);
        x.fell(0, 0, 1);
        x.fell(0, 0, 0);
        x.fell(0, 0, 0);
        due("25 5 by 11 by 11 is the most: 4 and 1", x.loose(0), 4);
        x.sheet(0, 0, 8);
        x.lay(0, 0, 0, 2);
        x.lay(0, 0, 4, 15);
        due("26 as many as are whole", x.read(0), 2);
        due("26 they are FELL", x.count(4), 5);
        x.lay(0, 0, 4, 16);
        due("26 as long as each may be", x.read(0), 1);
        due("26 they are FELL", x.count(4), 6);
    }

    /** LOTS of SEED 7: 12, 14, 4 at PART 0, none less than ODDS; at 4 the first's 2 is, 3 HITS the third; 5 is not less than 5. */
    private static void morning() {
        due("27 SEED 7", scene().morning(7), 1);
        shortMorning();
    }

    /** One stone can fall on one WALKER alone, so two LOTS settle all. */
    private static void shortMorning() {
        StonesAbove x = Check.with(".l9", "90.;11.");
        int mostHit = 0;
        for (int seed = -500; seed < 500; seed++) {
            int s = 1103515245 * seed + 12345;
            boolean falls = (s >>> 16) % 16 < 12;
            int t = 1103515245 * s + 12345;
            int due = falls && (t >>> 16) % 16 < 1 ? 1 : 0;
            due("27 morning(" + seed + ")", x.morning(seed), due);
            mostHit = Math.max(mostHit, due);
        }
        due("27 one seed or another HITS", mostHit, 1);
    }

    private static void sheets() {
        StonesAbove x = scene();
        due("28 n", x.sheet(0, 0, 3), 3);
        due("28 SIZE", x.sheet(0, 0, -1), -15);
        due("28 BAD", x.sheet(0, 0, 61), -2);
        due("30 lowest bits", x.lay(0, 0, 2, 511), 1);
        due("31 lowest bits", x.get(0, 0, 2), -1);
        due("30 CAST before INDEX", x.lay(0, 1, 9, 1), -13);
        due("30 INDEX", x.lay(0, 0, 3, 1), -12);
        due("31 the least int", x.get(1, 0, 0), Integer.MIN_VALUE);
        due("34 count() 8 tells", x.count(8), 1);
        due("33 as many as items and WALKERS", x.write(1, 0), 3);
        due("33 WALKER 0", x.get(0, 0, 0), 1);
        due("33 WALKER 1", x.get(0, 0, 1), 0);
        due("33 WALKER 2: NONE", x.get(0, 0, 2), -1);
        due("32 as they were", x.copy(0, 0, 0, 1, 2), 1);
        due("32 item 0 stays", x.get(0, 0, 0), 1);
        due("32 item 1 was item 0", x.get(0, 0, 1), 1);
        due("32 item 2 was item 1", x.get(0, 0, 2), 0);
        due("32 NULL", x.copy(0, 0, 3, 0, 1), -11);
        x.sheet(3, 2, 3);
        due("32 STORE before INDEX", x.copy(0, 0, 3, 0, -1), -14);
        due("32 INDEX: not so many", x.copy(0, 1, 0, 0, 3), -12);
        due("32 INDEX: below 0", x.copy(0, 0, 0, 0, -1), -12);
        due("29 how many items it had", x.lose(0), 3);
        due("29 NULL", x.lose(0), -11);
    }

    private static void counts() {
        StonesAbove x = scene();
        x.fell(0, 0, 0);
        x.set(0, 7);
        x.lose(2);
        int[] counts = {5, 3, 7, 11, 1, 9, 7, 1, 1, -2};
        for (int what = 0; what < counts.length; what++) {
            due("34 count(" + what + ")", x.count(what), counts[what]);
        }
    }

    private static void digest() {
        long bad = Check.BAD_LONG;
        long not = Check.NOT_LONG;
        long[] each = {
            5, 3, 7, 11, 0, 9, 1, 1, // counts
            -1, -1, // faults
            3, 2, 0, 0, 1, /**/ 0, 0, 1, 0, 1, /**/ 2, 0, 2, 1, 1, /**/ 1, 0, 3, 1, 1, /**/ 3, 7, 4, 2, 1, // PARTS
            6, 3, 0, -1, 0, bad, bad, 0, 1, 0, 1, /**/ 1, 8, 1, 4, 0, 0, 1, 0, 1, 0, 1, /**/ 9, 9, 0, 3, 0, 1, 8, 0, 1, 1, 8, // WALKERS
            1, 8, 7, 999, 0, 1, 0, // all together, ends, latest, curve, gap
            2, 0, 7, 128, 4, 1, 16, 3, 3, 1, // order, helmets, waits
            not, not, 1}; // foot, morning
        long h = 17;
        for (long v : each) {
            h = 31 * h + v;
        }
        due("35 digest by hand", scene().digest(), h);
    }
}
