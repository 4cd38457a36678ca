import java.util.function.ToLongFunction;

/** What the tests of boundaries share. Whatever is not as due is printed with the sentence that it breaks. */
final class Check {
    static final int UNKNOWN = -101, OUTSIDE = -102, STATE = -103, ROOM = -104, NONE = -109;
    static final int LOW = Integer.MIN_VALUE, HIGH = Integer.MAX_VALUE;
    private static final int SHOWN = 40;

    private static String sentence = "";
    private static int sentences = 0;
    private static int faults = 0;

    private Check() {
    }

    /** The sentence of the document that the checks behind this are about. */
    static void says(String words) {
        sentence = words;
        sentences++;
    }

    static void fault(String what) {
        faults++;
        if (faults <= SHOWN) {
            System.out.println("'" + sentence + "': " + what);
        }
    }

    static void due(String what, long got, long want) {
        if (got != want) {
            fault(what + " is " + got + ", due is " + want);
        }
    }

    static void due(String what, long got, double want) {
        if (got != bits(want)) {
            fault(what + " is " + number(got) + ", due is " + want);
        }
    }

    static void must(String what, boolean so) {
        if (!so) {
            fault("not so: " + what);
        }
    }

    static long bits(double v) {
        return Double.doubleToLongBits(v);
    }

    static double number(long bits) {
        return Double.longBitsToDouble(bits);
    }

    /** A call that is refused by a code; what it changes is looked at elsewhere. */
    static void refuses(String what, Net n, int code, ToLongFunction<Net> call) {
        long got = call.applyAsLong(n);
        int told = n.code();
        due(what + ", its code", told, code);
        must(what + " answers its code, or 0 as a long", got == code || got == 0L);
    }

    static void end(String name) {
        System.out.println(name + ": " + sentences + " sentences, " + (faults == 0 ? "all are kept" : faults + " faults"));
        if (faults != 0) {
            System.exit(1);
        }
    }
}
