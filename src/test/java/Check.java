/** What the tests share: compares answers, and counts those that are not as due. */
final class Check {
    static final long BAD_LONG = Long.MIN_VALUE + 2;
    static final long NOT_LONG = Long.MIN_VALUE + 3;

    private static int checked = 0;
    private static int wrong = 0;

    private Check() {
    }

    static void due(String call, long got, long want) {
        checked++;
        if (got != want) {
            wrong++;
            System.out.println(call + " answered " + got + ", due is " + want);
        }
    }

    /** Compares an answer told as above and below. */
    static void dueFraction(String call, long above, long below, long wantAbove, long wantBelow) {
        due(call + " above", above, wantAbove);
        due(call + " below", below, wantBelow);
    }

    /** The same, of a HARM told in 256ths. */
    static void dueOf256(String call, long above, long below, long due) {
        long shared = greatestDivisor(256, due);
        dueFraction(call, above, below, due / shared, 256 / shared);
    }

    static long greatestDivisor(long a, long b) {
        return b == 0 ? a : greatestDivisor(b, a % b);
    }

    static StonesAbove with(String gully, String walkers) {
        StonesAbove x = new StonesAbove();
        type(x, 0, gully);
        type(x, 1, walkers);
        return x;
    }

    static void type(StonesAbove x, int text, String bytes) {
        for (int i = 0; i < bytes.length(); i++) {
            x.type(text, bytes.charAt(i));
        }
    }

    /** Wipes a text first. */
    static void retype(StonesAbove x, int text, String bytes) {
        x.wipe(text);
        type(x, text, bytes);
    }

    static int fault(int text, String bytes) {
        StonesAbove x = new StonesAbove();
        type(x, text, bytes);
        return x.fault(text);
    }

    static void end() {
        System.out.println(checked + " answers, " + wrong + " not as due");
        if (wrong != 0 || checked == 0) {
            System.exit(1);
        }
    }
}
