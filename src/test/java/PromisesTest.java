import java.util.function.ToIntFunction;
import java.util.function.ToLongFunction;

/** Each promise by itself: ordinary calls, the edges that the document names, and wrong inputs. */
public final class PromisesTest {
    private static final int UNKNOWN = -101, OUTSIDE = -102, STATE = -103, ROOM = -104, NONE = -109;
    private static final int LOW = Integer.MIN_VALUE, HIGH = Integer.MAX_VALUE;
    private static int wrong = 0;
    private static int promise = 0;

    // ---- what the tests share

    private static void due(String what, long got, long want) {
        if (got != want) {
            wrong++;
            System.out.println("promise " + promise + ": " + what + " answered " + got + ", due is " + want);
        }
    }

    private static void near(String what, long got, double want, double slack) {
        double v = Double.longBitsToDouble(got);
        if (!(Math.abs(v - want) <= slack)) {
            wrong++;
            System.out.println("promise " + promise + ": " + what + " answered " + v + ", due is about " + want);
        }
    }

    private static long bits(double v) {
        return Double.doubleToLongBits(v);
    }

    // BoundsTest looks at all that a refused call could change; here a few calls must do
    private static String look(Net n) {
        return n.count(1) + " " + n.count(2) + " " + n.count(8) + " " + n.status(0, 0) + " " + n.digest();
    }

    private static void refused(String what, Net n, int code, ToIntFunction<Net> call) {
        String before = look(n);
        due(what, call.applyAsInt(n), code);
        due(what + ", its code", n.code(), code);
        due(what + ", its code again", n.code(), code);
        if (!look(n).equals(before)) due(what + " changed something", 1, 0);
    }

    private static void refusedLong(String what, Net n, int code, ToLongFunction<Net> call) {
        String before = look(n);
        due(what, call.applyAsLong(n), 0L);
        due(what + ", its code", n.code(), code);
        if (!look(n).equals(before)) due(what + " changed something", 1, 0);
    }

    private static void row(Net n, int station, int block, int kind, long... samples) {
        n.lane(kind);
        for (long v : samples) n.raw(v);
        due("packet of the test", n.packet(station, block, kind, samples.length), samples.length);
    }

    private static long[] ones(int n) {
        long[] row = new long[n];
        for (int i = 0; i < n; i++) row[i] = 1;
        return row;
    }

    /** A station of INTS whose picker fires at a 1000 behind at least three 1s. */
    private static int alertStation(Net n, int x, int y) {
        int s = n.station(x, y, 1);
        n.picker(s, 0, 1, 2, 20);
        return s;
    }

    private static void skipTo(Net n, int station, int block) {
        for (int i = 0; i < 32 && n.status(station, 0) < block * 32; i++) n.skip(station);
    }

    /** Begins anew at the block ahead of the sample's (which must not be behind) and brings a pick there. */
    private static int pickAt(Net n, int station, int sample, long height) {
        int block = sample / 32;
        int before = n.count(1);
        skipTo(n, station, block - 1);
        n.lane(1);
        n.swing(32, 1, 0);
        n.packet(station, block - 1, 1, 32);
        int ahead = sample % 32;
        if (ahead > 0) n.swing(ahead, 1, 0);
        n.raw(height);
        n.packet(station, block, 1, ahead + 1);
        n.read(station, 32 + ahead + 1);
        due("picks of the test", n.count(1), before + 1);
        due("sample of the test's pick", n.pick(before, 1), sample);
        return before;
    }

    /** One layer of speed 1, four stations 100, 200, 300, 400 from the middle, a shake there at 20. */
    private static Net shaken() {
        Net n = new Net();
        n.layer(200, 16);
        alertStation(n, 100, 0);
        alertStation(n, 0, 200);
        alertStation(n, -300, 0);
        alertStation(n, 0, -400);
        pickAt(n, 0, 120, 1000);
        pickAt(n, 1, 220, 1000);
        pickAt(n, 2, 320, 1000);
        pickAt(n, 3, 420, 1000);
        return n;
    }

    private static Net withEvent() {
        Net n = shaken();
        due("vote of the test", n.vote(1000, 0, 0, 3), 0);
        return n;
    }

    private static Net crowded() {
        Net n = withEvent();
        n.layer(100, 32);
        n.layer(100, 64);
        n.table(50, 30);
        n.rule(3, 0);
        n.tick();
        n.rework(0);
        n.rework(1);
        n.tick();
        n.vote(1000, 0, 400, 2);
        n.swarms(10);
        n.lane(3);
        n.raw(17);
        return n;
    }

    // ---- the promises

    private static void newObject() {
        promise = 1;
        Check.says("promises");
        Net n = new Net();
        due("code()", n.code(), 0);
        for (int w = 0; w <= 16; w++) if (w != 10) due("count(" + w + ")", n.count(w), 0);
        due("digest()", n.digest(), -3750763034362895579L);
        refused("status", n, UNKNOWN, x -> x.status(0, 0));
        refused("pick", n, UNKNOWN, x -> x.pick(0, 0));
        refused("event", n, UNKNOWN, x -> x.event(0, 0));
        refused("alert", n, UNKNOWN, x -> x.alert(0, 0));
        refusedLong("time", n, STATE, x -> x.time(0, 1, 1));
        for (int w = 0; w < 3; w++) due("known(0, " + w + ")", n.known(0, w), 0);
        for (int w = 0; w < 4; w++) due("trace(" + w + ")", n.trace(w), 0);
    }

    private static void lane() {
        promise = 2;
        Net n = new Net();
        due("lane(3)", n.lane(3), 0);
        due("kind", n.count(9), 3);
        n.noise(5, 3, 1);
        due("lane(3)", n.lane(3), 5);
        due("samples", n.count(8), 0);
        n.raw(1);
        for (int kind : new int[] {-1, 4, LOW, HIGH}) refused("lane(" + kind + ")", n, OUTSIDE, x -> x.lane(kind));
        due("samples", n.count(8), 1);
        due("lane(0)", n.lane(0), 1);
        due("kind", n.count(9), 0);
    }

    private static long groundOf(int kind, long v) {
        Net n = new Net();
        n.station(0, 0, kind);
        row(n, 0, 0, kind, v);
        return n.ground(0, 0);
    }

    private static void raw() {
        promise = 3;
        Net n = new Net();
        for (int i = 1; i <= 32; i++) due("raw", n.raw(i), i);
        refused("raw", n, ROOM, x -> x.raw(1));
        due("lowest 16 bits", groundOf(0, 0x18001L), bits(-32767.0));
        due("lowest 16 bits", groundOf(0, Long.MIN_VALUE), bits(0.0));
        due("lowest 32 bits", groundOf(1, 0x180000001L), bits(-2147483647.0));
        due("lowest 32 bits", groundOf(1, Long.MAX_VALUE), bits(-1.0));
        due("float", groundOf(2, 0x7fffffbfffffffL), bits((float) 0x7fffffbfffffffL / 16.0f));
        due("float", groundOf(2, -3), bits(-0.1875));
        due("double", groundOf(3, Long.MAX_VALUE), bits(Long.MAX_VALUE / 16.0));
        due("double", groundOf(3, Long.MIN_VALUE + 1), bits((Long.MIN_VALUE + 1) / 16.0));
        due("least long as a float", groundOf(2, Long.MIN_VALUE), bits(Double.NaN));
        due("least long as a double", groundOf(3, Long.MIN_VALUE), bits(Double.NaN));
    }

    private static void noise() {
        promise = 4;
        Net n = new Net();
        n.station(0, 0, 1);
        n.lane(1);
        due("noise", n.noise(3, 500, 77), 3);
        due("noise", n.noise(29, 30000, -1), 32);
        refused("noise", n, ROOM, x -> x.noise(1, 5, 1));
        refused("noise", n, OUTSIDE, x -> x.noise(33, 5, 1));
        n.packet(0, 0, 1, 32);
        long s = 77;
        for (int i = 0; i < 32; i++) {
            if (i == 3) s = -1;
            s = s * 6364136223846793005L + 1442695040888963407L;
            long want = i < 3 ? (s >>> 33) % 1001 - 500 : (s >>> 33) % 60001 - 30000;
            due("sample " + i, n.ground(0, i), bits(want));
        }
        due("noise of size 0", n.noise(1, 0, 9), 1);
        refused("noise", n, ROOM, x -> x.noise(32, 5, 1));
        due("still", n.count(8), 1);
        for (int k : new int[] {0, -1, 33, LOW, HIGH}) refused("noise n", n, OUTSIDE, x -> x.noise(k, 5, 1));
        for (int k : new int[] {-1, 30001, LOW, HIGH}) refused("noise size", n, OUTSIDE, x -> x.noise(1, k, 1));
        n.packet(0, 1, 1, 1);
        due("0 it is", n.ground(0, 32), 0L);
    }

    private static void swing() {
        promise = 5;
        Net n = new Net();
        n.station(0, 0, 0);
        due("swing", n.swing(5, 10, 3), 5);
        due("swing", n.swing(2, 30000, 30000), 7);
        n.packet(0, 0, 0, 7);
        double[] want = {10, -7, 4, -1, 0, 30000, 0};
        for (int i = 0; i < 7; i++) due("sample " + i, n.ground(0, i), bits(want[i]));
        due("silence", n.swing(1, 0, 0), 1);
        n.lane(0);
        n.swing(32, 1, 0);
        refused("swing", n, ROOM, x -> x.swing(1, 1, 1));
        for (int k : new int[] {0, -1, 33, LOW, HIGH}) refused("swing n", n, OUTSIDE, x -> x.swing(k, 5, 1));
        for (int k : new int[] {-1, 30001, LOW, HIGH}) {
            refused("swing size", n, OUTSIDE, x -> x.swing(1, k, 1));
            refused("swing less", n, OUTSIDE, x -> x.swing(1, 1, k));
        }
        n.packet(0, 1, 0, 32);
        due("sample 31 of 1s", n.ground(0, 63), bits(-1.0));
    }

    private static void station() {
        promise = 6;
        Net n = new Net();
        due("station", n.station(-1000, 1000, 3), 0);
        due("x", n.status(0, 5), -1000);
        due("y", n.status(0, 6), 1000);
        due("kind", n.status(0, 7), 3);
        for (int k : new int[] {-1001, 1001, LOW, HIGH}) {
            refused("x", n, OUTSIDE, x -> x.station(k, 0, 0));
            refused("y", n, OUTSIDE, x -> x.station(0, k, 0));
        }
        for (int k : new int[] {-1, 4, LOW, HIGH}) refused("kind", n, OUTSIDE, x -> x.station(0, 0, k));
        for (int i = 1; i < 16; i++) due("station", n.station(i, -i, i % 4), i);
        refused("a 17th", n, ROOM, x -> x.station(0, 0, 0));
        refused("a 17th that is outside", n, OUTSIDE, x -> x.station(0, 0, 4));
        due("stations", n.count(0), 16);
    }

    private static void calibrate() {
        promise = 7;
        Net n = new Net();
        n.station(0, 0, 1);
        n.station(0, 0, 2);
        row(n, 0, 0, 1, 10, 11, 12);
        n.read(0, 2);
        due("fit ones", n.status(0, 1), 2);
        due("calibrate", n.calibrate(0, 3, 7, -9), 1);
        due("begun anew", n.status(0, 1), 0);
        due("place stays", n.status(0, 0), 2);
        due("ground", n.ground(0, 0), bits(((10 - 3.0) * 7.0) / -9.0));
        n.calibrate(0, 10, -5, 3);
        due("nought below nought", n.ground(0, 0), bits(-0.0));
        n.calibrate(0, 11, 1000, 0);
        due("infinite below", n.ground(0, 0), bits(Double.NEGATIVE_INFINITY));
        due("nought by nought", n.ground(0, 1), bits(Double.NaN));
        due("infinite", n.ground(0, 2), bits(Double.POSITIVE_INFINITY));
        row(n, 1, 0, 2, 16777216L * 16 + 16, Long.MIN_VALUE);
        n.calibrate(1, -1, 999, 7);
        due("in floats", n.ground(1, 0), bits((((16777216L * 16 + 16) / 16.0f + 1.0f) * 999.0f) / 7.0f));
        due("not a number", n.ground(1, 1), bits(Double.NaN));
        row(n, 1, 1, 2, 56);
        n.calibrate(1, 3, 10, 7);
        due("in floats", n.ground(1, 32), bits((0.5f * 10.0f) / 7.0f));
        refused("calibrate", n, UNKNOWN, x -> x.calibrate(2, 0, 0, 2000));
        refused("calibrate", n, UNKNOWN, x -> x.calibrate(-1, 0, 0, 0));
        for (int k : new int[] {-1001, 1001, LOW, HIGH}) {
            refused("zero", n, OUTSIDE, x -> x.calibrate(0, k, 0, 0));
            refused("up", n, OUTSIDE, x -> x.calibrate(0, 0, k, 0));
            refused("down", n, OUTSIDE, x -> x.calibrate(0, 0, 0, k));
        }
        due("still", n.ground(0, 2), bits(Double.POSITIVE_INFINITY));
        due("all edges", n.calibrate(0, -1000, 1000, -1000), 1);
    }

    private static void filter() {
        promise = 8;
        double[] xs = {16, -32, 48, 5};
        for (int sort = 0; sort < 4; sort++) {
            Net n = new Net();
            n.station(0, 0, 1);
            due("filter", n.filter(0, sort, 5), 0);
            due("filter", n.filter(0, sort, 5), sort);
            row(n, 0, 0, 1, 16, -32, 48, 5);
            double g = 0, h = 0, k = 0, a = 5 / 16.0;
            for (double x : xs) {
                n.read(0, 1);
                double y = x;
                if (sort == 1 || sort == 3) { h = a * ((h + x) - g); g = x; y = h; }
                if (sort == 2 || sort == 3) { k = k + a * (y - k); y = k; }
                due("y of filter " + sort, n.now(0, 0), bits(y));
            }
            n.filter(0, sort, 5);
            due("y begun anew", n.now(0, 0), 0L);
            due("fit begun anew", n.status(0, 1), 0);
            n.rework(0);
            n.read(0, 1);
            due("all of it begun anew", n.now(0, 0), bits(sort == 0 ? 16.0 : sort == 3 ? a * (a * 16.0) : a * 16.0));
        }
        Net n = new Net();
        n.station(0, 0, 1);
        row(n, 0, 0, 1, 7);
        n.picker(0, 0, 1, 2, 3);
        n.filter(0, 2, 8);
        n.read(0, 1);
        due("a half", n.now(0, 0), bits(3.5));
        refused("filter", n, UNKNOWN, x -> x.filter(1, 9, 9));
        for (int k : new int[] {-1, 4, LOW, HIGH}) refused("sort", n, OUTSIDE, x -> x.filter(0, k, 0));
        for (int k : new int[] {-1, 17, LOW, HIGH}) refused("a", n, OUTSIDE, x -> x.filter(0, 0, k));
        due("which it was", n.filter(0, 3, 16), 2);
        due("which it was", n.filter(0, 0, 0), 3);
    }

    private static void pickerRatioAndChange() {
        promise = 9;
        long[] xs = {4, -6, 2, 9, -40, 3, 0, 1};
        for (int sort = 0; sort < 2; sort++) {
            Net n = new Net();
            n.station(0, 0, 1);
            due("picker", n.picker(0, sort, 3, 5, 255), 0);
            row(n, 0, 0, 1, xs);
            double s = 0, l = 0, m = 0;
            for (long x : xs) {
                n.read(0, 1);
                double u = Math.abs((double) x);
                if (sort == 1) { double e = x - m; m = m + e / 5; u = e * e; }
                s = s + (u - s) / 3;
                l = l + (u - l) / 5;
                due("rate of " + sort, n.now(0, 1), bits(sort == 0 ? s / l : Math.sqrt(s / l)));
            }
            n.picker(0, sort, 3, 5, 255);
            due("begun anew", n.now(0, 1), 0L);
            n.rework(0);
            n.read(0, 1);
            due("all of it begun anew", n.now(0, 1), bits(sort == 0 ? (4.0 / 3) / (4.0 / 5) : Math.sqrt((16.0 / 3) / (16.0 / 5))));
        }
        Net n = new Net();
        n.station(0, 0, 1);
        due("edges", n.picker(0, 3, 1, 2, 1), 0);
        due("edges", n.picker(0, 2, 16, 64, 255), 3);
        refused("picker", n, UNKNOWN, x -> x.picker(1, 0, 4, 16, 0));
        for (int k : new int[] {-1, 4, LOW, HIGH}) refused("sort", n, OUTSIDE, x -> x.picker(0, k, 4, 16, 48));
        for (int k : new int[] {0, 17, LOW, HIGH}) refused("S", n, OUTSIDE, x -> x.picker(0, 0, k, 16, 48));
        for (int k : new int[] {1, 65, LOW, HIGH}) refused("L", n, OUTSIDE, x -> x.picker(0, 0, 4, k, 48));
        for (int k : new int[] {0, 256, LOW, HIGH}) refused("b", n, OUTSIDE, x -> x.picker(0, 0, 4, 16, k));
        due("which it was", n.picker(0, 1, 4, 16, 48), 2);
        due("no rate of silence", silentRate(0), 0L);
        due("no rate of silence", silentRate(1), 0L);
        due("no rate of silence", silentRate(3), 0L);
        pickerAtFirst();
    }

    private static long silentRate(int sort) {
        Net n = new Net();
        n.station(0, 0, 1);
        n.picker(0, sort, 1, 2, 1);
        row(n, 0, 0, 1, new long[32]);
        n.read(0, 32);
        due("picks in silence", n.count(1), 0);
        return n.now(0, 1);
    }

    // RATIO, 4, 16, 48 at first: no pick before the 17th fit sample, then by a rate above 3.0
    private static void pickerAtFirst() {
        Net n = new Net();
        n.station(0, 0, 1);
        long[] xs = ones(20);
        xs[15] = 100000;
        xs[16] = 100000;
        row(n, 0, 0, 1, xs);
        n.read(0, 16);
        double rate = Double.longBitsToDouble(n.now(0, 1));
        if (!(rate > 3.0)) due("a rate above 3.0", 0, 1);
        due("no pick by 16", n.count(1), 0);
        n.read(0, 4);
        due("a pick by 17", n.count(1), 1);
        due("its sample", n.pick(0, 1), 16);
        due("its quality", n.pick(0, 3), 1);
    }

    private static void wave() {
        promise = 10;
        Net n = new Net();
        n.station(0, 0, 1);
        n.picker(0, 2, 1, 2, 200);
        long[] ys = {3, -1, 4, 1, -5, 9, 2, -6, 5};
        int[] ws = {-100, 100, 7, 0, 3, -2, 1, 5};
        row(n, 0, 0, 1, ys);
        for (int i = 0; i < 8; i++) due("wave", n.wave(i, ws[i]), 0);
        n.read(0, 7);
        due("7 are too few", n.now(0, 1), 0L);
        n.read(0, 2);
        due("match", n.now(0, 1), bits(matchOf(ws, ys, 1)));
        for (int i = 0; i < 8; i++) {
            due("wave", n.wave(i, 2 * i - 9), ws[i]);
            ws[i] = 2 * i - 9;
        }
        due("match of what was read", n.now(0, 1), bits(matchOf(ws, ys, 1)));
        n.rework(0);
        n.read(0, 7);
        due("no y is kept", n.now(0, 1), 0L);
        n.read(0, 1);
        due("match of the first", n.now(0, 1), bits(matchOf(ws, ys, 0)));
        for (int k : new int[] {-1, 8, LOW, HIGH}) refused("i", n, OUTSIDE, x -> x.wave(k, 0));
        for (int k : new int[] {-101, 101, LOW, HIGH}) refused("v", n, OUTSIDE, x -> x.wave(0, k));
        for (int i = 0; i < 8; i++) due("wave", n.wave(i, 0), ws[i]);
        due("a wave of noughts", n.now(0, 1), 0L);
    }

    private static double matchOf(int[] ws, long[] ys, int from) {
        double c = 0, p = 0, q = 0;
        for (int i = 0; i < 8; i++) {
            c += (double) ws[i] * ys[from + i];
            p += (double) ys[from + i] * ys[from + i];
            q += (double) ws[i] * ws[i];
        }
        return (16.0 * c) / Math.sqrt(p * q);
    }

    private static void term() {
        promise = 11;
        Net n = withEvent();
        long before = n.size(0);
        for (int s = 0; s < 4; s++) due("term", n.term(s, -102), 0);
        near("size", n.size(0), Double.longBitsToDouble(before) - 102 / 16.0, 1e-9);
        due("which it was", n.term(0, 1000), -102);
        due("no refusal", n.code(), 0);
        due("which it was", n.term(0, -1000), 1000);
        refused("term", n, UNKNOWN, x -> x.term(4, 5000));
        for (int k : new int[] {-1001, 1001, LOW, HIGH}) refused("v", n, OUTSIDE, x -> x.term(1, k));
        due("which it was", n.term(1, 0), -102);
    }

    private static void packet() {
        promise = 12;
        Net n = new Net();
        n.station(0, 0, 1);
        n.lane(1);
        n.raw(5);
        n.raw(6);
        due("packet", n.packet(0, 31, 1, 3), 3);
        due("lane is empty", n.count(8), 0);
        due("its kind stays", n.count(9), 1);
        due("rows", n.status(0, 8), 1);
        due("sample", n.ground(0, 993), bits(6.0));
        due("nought behind the lane", n.ground(0, 994), 0L);
        due("an empty row", n.packet(0, 0, 1, 0), 0);
        due("rows", n.status(0, 8), 2);
        n.raw(5);
        refused("block", n, UNKNOWN, x -> x.packet(0, 32, 9, 99));
        refused("block", n, UNKNOWN, x -> x.packet(0, -1, 1, 1));
        refused("station", n, UNKNOWN, x -> x.packet(1, 0, 9, -1));
        for (int k : new int[] {-1, 4, LOW, HIGH}) refused("kind", n, OUTSIDE, x -> x.packet(0, 1, k, -1));
        refused("n", n, OUTSIDE, x -> x.packet(0, 1, 0, 33));
        refused("n", n, OUTSIDE, x -> x.packet(0, 1, 0, HIGH));
        refused("size", n, -14, x -> x.packet(0, 1, 0, -1));
        refused("size", n, -14, x -> x.packet(0, 1, 0, LOW));
        refused("store", n, -15, x -> x.packet(0, 1, 0, 0));
        refused("place", n, -16, x -> x.packet(0, 1, 1, 0));
        refused("place ahead of state", n, -16, x -> x.packet(0, 31, 1, 0));
        due("sizes met", n.count(14), 2);
        due("stores met", n.count(15), 1);
        due("places met", n.count(16), 2);
        refused("not fewer", n, STATE, x -> x.packet(0, 31, 1, 3));
        n.raw(6);
        refused("the same", n, STATE, x -> x.packet(0, 31, 1, 3));
        n.lane(1);
        n.raw(5);
        refused("another beginning", n, STATE, x -> x.packet(0, 31, 1, 4));
        n.raw(6);
        due("more of the same", n.packet(0, 31, 1, 4), 4);
        n.lane(2);
        refused("another kind", n, STATE, x -> x.packet(0, 31, 2, 32));
        due("an empty lane of its kind", n.packet(0, 5, 2, 2), 2);
        refused("an empty lane of another", n, -15, x -> x.packet(0, 6, 1, 2));
        n.lane(1);
        refused("silence of another kind", n, STATE, x -> x.packet(0, 5, 1, 32));
        n.lane(2);
        due("behind silence", n.packet(0, 5, 2, 32), 32);
        packetOfNoNumbers(2);
        packetOfNoNumbers(3);
    }

    private static void packetOfNoNumbers(int kind) {
        Net n = new Net();
        n.station(0, 0, kind);
        row(n, 0, 0, kind, Long.MIN_VALUE, 4);
        row(n, 0, 0, kind, Long.MIN_VALUE, 4, 5);
        n.lane(kind);
        n.raw(0);
        n.raw(4);
        n.raw(5);
        refused("a number where there was none", n, STATE, x -> x.packet(0, 0, kind, 4));
        due("ground", n.ground(0, 2), bits(5 / 16.0));
    }

    private static void ground() {
        promise = 13;
        Net n = new Net();
        n.station(0, 0, 0);
        row(n, 0, 1, 0, 32767, -32768);
        row(n, 0, 2, 1, 5);
        due("ground", n.ground(0, 32), bits(32767.0));
        due("ground", n.ground(0, 33), bits(-32768.0));
        refusedLong("nothing", n, -11, x -> x.ground(0, 0));
        refusedLong("nothing", n, -11, x -> x.ground(0, 1023));
        refusedLong("kind", n, -12, x -> x.ground(0, 64));
        refusedLong("kind ahead of short", n, -12, x -> x.ground(0, 65));
        refusedLong("short", n, -13, x -> x.ground(0, 34));
        due("nothing met", n.count(11), 2);
        due("kind met", n.count(12), 2);
        due("short met", n.count(13), 1);
        refusedLong("station", n, UNKNOWN, x -> x.ground(1, -1));
        for (int k : new int[] {-1, 1024, LOW, HIGH}) refusedLong("t", n, OUTSIDE, x -> x.ground(0, k));
        due("nothing met", n.count(11), 2);
    }

    private static void spectrum() {
        promise = 14;
        Net n = new Net();
        n.station(0, 0, 3);
        n.lane(3);
        n.noise(31, 900, 3);
        n.raw(Long.MIN_VALUE);
        n.packet(0, 4, 3, 32);
        double[] g = new double[31];
        for (int i = 0; i < 31; i++) g[i] = Double.longBitsToDouble(n.ground(0, 128 + i));
        for (int k = 0; k <= 16; k++) {
            double c = 1.0, d = 0.0, a = 0.0, b = 0.0;
            double[] cs = new double[32], ds = new double[32];
            for (int i = 0; i < 32; i++) {
                cs[i] = c;
                ds[i] = d;
                double next = c * 0.9807852804032304 - d * 0.19509032201612825;
                d = d * 0.9807852804032304 + c * 0.19509032201612825;
                c = next;
            }
            for (int i = 0; i < 31; i++) {
                a += g[i] * cs[(i * k) % 32];
                b += g[i] * ds[(i * k) % 32];
            }
            due("spectrum at " + k, n.spectrum(0, 4, k), bits((a * a + b * b) / 32.0));
        }
        due("rows taken", n.count(7), 17);
        row(n, 0, 5, 3, 1, 2);
        row(n, 0, 6, 2, 1, 2);
        refusedLong("nothing", n, -11, x -> x.spectrum(0, 0, 1));
        refusedLong("kind", n, -12, x -> x.spectrum(0, 6, 1));
        refusedLong("short", n, -13, x -> x.spectrum(0, 5, 1));
        due("rows taken ahead of failures", n.count(7), 20);
        due("met", n.count(11) + n.count(12) + n.count(13), 3);
        refusedLong("station", n, UNKNOWN, x -> x.spectrum(1, 0, -1));
        for (int k : new int[] {-1, 32, LOW, HIGH}) refusedLong("block", n, UNKNOWN, x -> x.spectrum(0, k, 99));
        for (int k : new int[] {-1, 17, LOW, HIGH}) refusedLong("k", n, OUTSIDE, x -> x.spectrum(0, 4, k));
        due("none by refused ones", n.count(7), 20);
        due("none out", n.count(6), 0);
    }

    private static void read() {
        promise = 15;
        Net n = new Net();
        n.station(0, 0, 1);
        due("nothing", n.read(0, 1), 1);
        due("code of a failure that read tells", n.code(), 0);
        row(n, 0, 0, 1, ones(32));
        row(n, 0, 1, 1, ones(3));
        row(n, 0, 2, 0, ones(32));
        due("so many", n.read(0, 32), 0);
        due("place", n.status(0, 0), 32);
        due("short", n.read(0, 128), 3);
        due("place", n.status(0, 0), 35);
        n.skip(0);
        due("kind", n.read(0, 1), 2);
        due("met", n.count(11) * 100 + n.count(12) * 10 + n.count(13), 111);
        for (int b = 3; b < 32; b++) n.skip(0);
        row(n, 0, 31, 1, ones(32));
        due("place", n.status(0, 0), 992);
        due("to the very end", n.read(0, 32), 0);
        due("place", n.status(0, 0), 1024);
        due("at the end", n.read(0, 1), 4);
        due("the end is no failure", n.count(14), 0);
        due("status", n.status(0, 3), 4);
        refused("station", n, UNKNOWN, x -> x.read(1, 0));
        for (int k : new int[] {0, -1, 129, LOW, HIGH}) refused("n", n, OUTSIDE, x -> x.read(0, k));
        due("end within", endWithin(), 4);
    }

    private static int endWithin() {
        Net n = new Net();
        n.station(0, 0, 1);
        for (int b = 0; b < 31; b++) n.skip(0);
        row(n, 0, 31, 1, ones(32));
        return n.read(0, 33);
    }

    private static void skip() {
        promise = 16;
        Net n = new Net();
        n.station(0, 0, 1);
        row(n, 0, 0, 1, ones(5));
        n.read(0, 5);
        due("skip", n.skip(0), 32);
        due("begun anew", n.status(0, 1), 0);
        due("y", n.now(0, 0), 0L);
        due("from a beginning", n.skip(0), 64);
        for (int b = 3; b <= 32; b++) due("skip", n.skip(0), 32 * b);
        refused("at the end", n, STATE, x -> x.skip(0));
        refused("station", n, UNKNOWN, x -> x.skip(1));
        refused("station", n, UNKNOWN, x -> x.skip(-1));
    }

    private static void rework() {
        promise = 17;
        Net n = withEvent();
        n.tick();
        due("rework", n.rework(2), 1);
        due("place", n.status(2, 0), 0);
        due("fit", n.status(2, 1), 0);
        due("until", n.pick(2, 6), 1);
        due("a member no more", n.pick(2, 4), NONE);
        due("members", n.event(0, 0), 3);
        due("the third now", n.member(0, 2), 3);
        due("known until", n.event(0, 2), NONE);
        due("rework again", n.rework(2), 0);
        due("the one more", n.rework(0), 1);
        due("fewer than LEAST", n.event(0, 2), 1);
        due("no members", n.event(0, 0), 0);
        due("free again", n.pick(1, 4), NONE);
        due("free, but known", n.pick(1, 6), NONE);
        refused("station", n, UNKNOWN, x -> x.rework(4));
        due("all at once", secondPhases().rework(0), 3);
    }

    /** Picks at 36, 60 and 90 of one run. */
    private static Net secondPhases() {
        Net n = new Net();
        n.layer(200, 160);
        alertStation(n, 0, 0);
        for (int b = 1; b < 3; b++) {
            long[] xs = ones(32);
            for (int t : new int[] {36, 60, 90}) if (t / 32 == b) xs[t % 32] = 1000;
            row(n, 0, b, 1, xs);
        }
        n.skip(0);
        n.read(0, 64);
        return n;
    }

    private static void status() {
        promise = 18;
        Net n = new Net();
        n.station(-102, -103, 3);
        int[] fresh = {0, 0, 0, 0, 1, -102, -103, 3, 0, 0};
        for (int w = 0; w < 10; w++) due("status " + w, n.status(0, w), fresh[w]);
        due("no refusal", n.code(), 0);
        row(n, 0, 0, 3, 1, Long.MIN_VALUE, 2, Long.MIN_VALUE, 3);
        n.read(0, 5);
        due("place", n.status(0, 0), 5);
        due("fit", n.status(0, 1), 3);
        due("not fit", n.status(0, 2), 2);
        due("latest read", n.status(0, 3), 0);
        n.read(0, 5);
        due("latest read", n.status(0, 3), 3);
        n.calibrate(0, 0, 1, 0);
        due("fit anew", n.status(0, 1), 0);
        due("not fit ever", n.status(0, 2), 2);
        due("latest read still", n.status(0, 3), 3);
        row(n, 0, 1, 3, 5, 0);
        n.skip(0);
        n.read(0, 2);
        due("infinite ones are not fit", n.status(0, 2), 4);
        due("blocks", n.status(0, 8), 2);
        refused("what", n, OUTSIDE, x -> x.status(0, 10));
        refused("what", n, OUTSIDE, x -> x.status(0, -1));
        refused("station", n, UNKNOWN, x -> x.status(1, 99));
        Net m = shaken();
        due("not armed", m.status(0, 4), 0);
        due("its picks", m.status(0, 9), 1);
        m.rework(0);
        due("armed", m.status(0, 4), 1);
        due("its picks", m.status(0, 9), 0);
    }

    private static void now() {
        promise = 19;
        Net n = new Net();
        n.station(0, 0, 3);
        due("without y", n.now(0, 0), 0L);
        due("without rate", n.now(0, 1), 0L);
        n.calibrate(0, 0, -1, 1);
        n.picker(0, 0, 2, 4, 255);
        row(n, 0, 0, 3, 0, 48, Long.MIN_VALUE);
        n.read(0, 1);
        due("nought below nought", n.now(0, 0), bits(-0.0));
        due("its rate", n.now(0, 1), 0L);
        n.read(0, 2);
        due("the latest fit one", n.now(0, 0), bits(-3.0));
        due("rate", n.now(0, 1), bits(1.5 / 0.75));
        for (int k : new int[] {-1, 2, LOW, HIGH}) refusedLong("what", n, OUTSIDE, x -> x.now(0, k));
        refusedLong("station", n, UNKNOWN, x -> x.now(1, 5));
    }

    private static void trace() {
        promise = 20;
        int[][] want = {{10, 0, 0, 0}, {10, 10, 0, 0}, {0, 0, 10, 0}, {20, 10, 10, 10}};
        for (int sort = 0; sort < 4; sort++) {
            Net n = new Net();
            n.station(0, 0, 3);
            n.picker(0, sort, 1, 2, 255);
            n.lane(3);
            n.noise(10, 50, 1);
            n.raw(Long.MIN_VALUE);
            n.packet(0, 0, 3, 11);
            n.read(0, 11);
            n.now(0, 1);
            for (int w = 0; w < 4; w++) due("trace " + w + " of " + sort, n.trace(w), want[sort][w]);
            n.rework(0);
            due("ever", n.trace(sort), 10);
            for (int k : new int[] {-1, 4, LOW, HIGH}) refused("sort", n, OUTSIDE, x -> x.trace(k));
        }
        threeIsTheMiddle();
    }

    private static void threeIsTheMiddle() {
        Net[] all = new Net[4];
        for (int sort = 0; sort < 4; sort++) {
            all[sort] = new Net();
            all[sort].station(0, 0, 3);
            all[sort].picker(0, sort, 2, 5, 255);
            for (int i = 0; i < 8; i++) all[sort].wave(i, i * i - 20);
            all[sort].lane(3);
            all[sort].noise(32, 3000, 8);
            all[sort].packet(0, 0, 3, 32);
        }
        for (int i = 0; i < 32; i++) {
            double[] r = new double[4];
            for (int sort = 0; sort < 4; sort++) {
                all[sort].read(0, 1);
                r[sort] = Double.longBitsToDouble(all[sort].now(0, 1));
            }
            due("three", bits(r[3]), bits(Math.max(Math.min(r[0], r[1]), Math.min(Math.max(r[0], r[1]), r[2]))));
        }
    }

    private static void pick() {
        promise = 21;
        Net n = secondPhases();
        due("picks", n.count(1), 3);
        int[] first = {0, 36, 0, 1, NONE, 0, NONE};
        for (int w = 0; w < 7; w++) due("pick 0, " + w, n.pick(0, w), first[w]);
        due("phase", n.pick(1, 2), 1);
        due("phase by the latest with phase 0", n.pick(2, 2), 1);
        n.tick();
        n.rework(0);
        due("until", n.pick(0, 6), 1);
        due("from", n.pick(0, 5), 0);
        for (int k : new int[] {-1, 7, LOW, HIGH}) refused("what", n, OUTSIDE, x -> x.pick(0, k));
        for (int k : new int[] {-1, 3, LOW, HIGH}) refused("pick", n, UNKNOWN, x -> x.pick(k, 9));
        due("phase at 200 behind", phaseAfter(200), 1);
        due("phase at 201 behind", phaseAfter(201), 0);
        due("quality", qualityOf(2, 20), 1);
        due("quality", qualityOf(16, 2), 9);
        due("quality", qualityOf(3, 7), 6);
        due("member of", withEvent().pick(3, 4), 0);
        arming();
    }

    private static int phaseAfter(int samples) {
        Net n = new Net();
        alertStation(n, 0, 0);
        for (int b = 0; b < 8; b++) {
            long[] xs = ones(32);
            for (int t : new int[] {10, 100, 10 + samples}) if (t / 32 == b) xs[t % 32] = 1000;
            row(n, 0, b, 1, xs);
        }
        n.read(0, 128);
        n.read(0, 128);
        due("picks", n.count(1), 3);
        due("sample", n.pick(2, 1), 10 + samples);
        return n.pick(2, 2);
    }

    // with S 1, a first beat behind silence has a rate of L
    private static int qualityOf(int longOne, int bound) {
        Net n = new Net();
        n.station(0, 0, 1);
        n.picker(0, 0, 1, longOne, bound);
        long[] xs = new long[32];
        xs[20] = 1000;
        row(n, 0, 0, 1, xs);
        n.read(0, 32);
        due("picks", n.count(1), 1);
        due("sample", n.pick(0, 1), 20);
        return n.pick(0, 3);
    }

    private static void arming() {
        Net n = new Net();
        n.station(0, 0, 1);
        n.picker(0, 0, 1, 2, 1);
        // a rate of 1.0 or more never arms it again
        row(n, 0, 0, 1, 1, 2, 4, 8, 16, 32, 64);
        n.read(0, 7);
        due("one pick", n.count(1), 1);
        due("more than L fit ones", n.pick(0, 1), 2);
        due("not armed", n.status(0, 4), 0);
        row(n, 0, 0, 1, 1, 2, 4, 8, 16, 32, 64, 1, 64);
        n.read(0, 1);
        due("armed by a rate below 1.0", n.status(0, 4), 1);
        due("no pick by arming", n.count(1), 1);
        n.read(0, 1);
        due("fired", n.count(1), 2);
        Net even = new Net();
        even.station(0, 0, 1);
        even.picker(0, 0, 1, 2, 1);
        for (int b = 0; b < 4; b++) row(even, 0, b, 1, ones(32));
        even.read(0, 128);
        due("a rate of 1.0", even.now(0, 1), bits(1.0));
        due("does not arm it", even.status(0, 4), 0);
        Net just = new Net();
        just.station(0, 0, 1);
        just.picker(0, 0, 1, 2, 32);
        row(just, 0, 0, 1, 0, 0, 0, 1000);
        just.read(0, 4);
        due("a rate of 2.0", just.now(0, 1), bits(2.0));
        due("is not above 2.0", just.count(1), 0);
    }

    private static void amplitude() {
        promise = 22;
        Net n = new Net();
        alertStation(n, 0, 0);
        long[] xs = ones(32);
        xs[5] = 1000;
        xs[20] = -1500;
        xs[21] = 9000;
        row(n, 0, 0, 1, xs);
        n.read(0, 6);
        due("its own", n.amplitude(0), bits(1000.0));
        n.read(0, 14);
        due("still", n.amplitude(0), bits(1000.0));
        n.read(0, 1);
        due("the 15th behind", n.amplitude(0), bits(1500.0));
        n.read(0, 1);
        due("the 16th behind", n.amplitude(0), bits(1500.0));
        for (int k : new int[] {-1, 3, LOW, HIGH}) refusedLong("pick", n, UNKNOWN, x -> x.amplitude(k));
        Net m = new Net();
        alertStation(m, 0, 0);
        row(m, 0, 0, 1, 1, 1, 1, 1, 1, 1000, 5000, 7000);
        m.read(0, 7);
        due("grown", m.amplitude(0), bits(5000.0));
        m.filter(0, 0, 8);
        m.read(0, 1);
        due("begun anew", m.amplitude(0), bits(5000.0));
    }

    private static void tick() {
        promise = 23;
        Net n = withEvent();
        due("tick", n.tick(), 1);
        due("four stations at first, a size of 0", n.count(3), 1);
        due("event of it", n.alert(0, 0), 0);
        due("from", n.alert(0, 1), 1);
        due("rows by a size", n.count(7), 1);
        due("tick", n.tick(), 2);
        due("still one", n.count(3), 1);
        due("rows", n.count(7), 2);
        n.rule(5, 0);
        due("tick", n.tick(), 3);
        due("taken back", n.alert(0, 2), 3);
        due("no size was looked for", n.count(7), 2);
        n.rule(4, 1000);
        n.tick();
        due("too small", n.count(3), 1);
        due("but looked for", n.count(7), 3);
        n.rule(2, -1000);
        n.tick();
        due("a new one", n.count(3), 2);
        due("its clock", n.alert(1, 1), 5);
        n.rework(0);
        n.rework(1);
        due("event taken back", n.event(0, 2), 5);
        due("alert still there", n.event(0, 6), 1);
        n.tick();
        due("alert taken back", n.alert(1, 2), 6);
        due("none now", n.event(0, 6), NONE);
    }

    private static void rule() {
        promise = 24;
        Net n = withEvent();
        double size = Double.longBitsToDouble(n.size(0));
        int sixteenths = (int) Math.floor(size * 16.0);
        due("rule", n.rule(4, sixteenths), 1);
        n.tick();
        due("just great enough", n.count(3), 1);
        n.rule(4, sixteenths + 1);
        n.tick();
        due("just too small", n.alert(0, 2), 2);
        refused("stations", n, OUTSIDE, x -> x.rule(1, 0));
        refused("stations", n, OUTSIDE, x -> x.rule(17, 0));
        refused("size", n, OUTSIDE, x -> x.rule(2, -1001));
        refused("size", n, OUTSIDE, x -> x.rule(2, 1001));
        n.tick();
        due("refused ones change nothing", n.count(3), 1);
        due("edges", n.rule(16, 1000), 1);
        due("edges", n.rule(2, -1000), 1);
        ruleAtFirst(0, 1);
        ruleAtFirst(-1, 0);
        ruleOfWholeSize();
    }

    // moves the size by the stations' terms to 0 .. 1/16, and then by more
    private static void ruleAtFirst(int more, int alerts) {
        Net n = withEvent();
        int sixteenths = (int) Math.floor(Double.longBitsToDouble(n.size(0)) * 16.0);
        for (int s = 0; s < 4; s++) n.term(s, more - sixteenths);
        n.tick();
        due("a size of 0 at first", n.count(3), alerts);
    }

    // powers of 2 alone: log(1024) + 1.5 * log(1 + 63) is 19
    private static void ruleOfWholeSize() {
        Net n = new Net();
        n.layer(200, 16);
        for (int s = 0; s < 2; s++) {
            alertStation(n, 1000, 1000);
            pickAt(n, s, 900, 20);
        }
        due("a smaller one ahead", n.vote(1000, 0, 0, 2), 0);
        alertStation(n, 63, 0);
        alertStation(n, 0, 63);
        alertStation(n, -63, 0);
        for (int s = 2; s < 5; s++) pickAt(n, s, 100, 1024);
        due("vote", n.vote(1000, 0, 0, 3), 1);
        due("size", n.size(1), bits(19.0));
        n.rule(3, 304);
        n.tick();
        due("just as great", n.event(1, 6), 0);
        due("its event", n.alert(0, 0), 1);
        n.rule(3, 305);
        n.tick();
        due("greater is told", n.event(1, 6), NONE);
    }

    private static void alert() {
        promise = 25;
        Net n = withEvent();
        n.tick();
        due("event", n.alert(0, 0), 0);
        due("from", n.alert(0, 1), 1);
        due("until", n.alert(0, 2), NONE);
        due("no refusal", n.code(), 0);
        for (int k : new int[] {-1, 3, LOW, HIGH}) refused("what", n, OUTSIDE, x -> x.alert(0, k));
        for (int k : new int[] {-1, 1, LOW, HIGH}) refused("alert", n, UNKNOWN, x -> x.alert(k, 7));
    }

    private static void layer() {
        promise = 26;
        Net n = new Net();
        due("layer", n.layer(1, 1), 0);
        due("layer", n.layer(200, 160), 1);
        n.table(10, 10);
        for (int k : new int[] {0, -1, 201, LOW, HIGH}) refused("thick", n, OUTSIDE, x -> x.layer(k, 10));
        for (int k : new int[] {0, -1, 161, LOW, HIGH}) refused("speed", n, OUTSIDE, x -> x.layer(10, k));
        n.doubt();
        due("the table stays", n.code(), 0);
        due("layer", n.layer(5, 5), 2);
        refusedLong("no table any more", n, STATE, x -> x.doubt());
        for (int i = 3; i < 6; i++) due("layer", n.layer(i, i), i);
        n.table(10, 10);
        refused("a seventh", n, ROOM, x -> x.layer(1, 1));
        refused("a seventh outside", n, OUTSIDE, x -> x.layer(0, 1));
        n.doubt();
        due("the table stays", n.code(), 0);
        due("layers", n.count(4), 6);
    }

    private static void time() {
        promise = 27;
        Net n = new Net();
        n.layer(30, 48);
        due("direct", n.time(1, 40, 30), bits(Math.sqrt(40.0 * 40.0 + 30.0 * 30.0) / 3.0));
        due("the last one never ends", n.time(0, 4000, 600), bits(Math.sqrt(4000.0 * 4000.0 + 600.0 * 600.0) / 3.0));
        due("nowhere", n.time(0, 0, 0), 0L);
        due("no refusal", n.code(), 0);
        n.layer(50, 80);
        n.layer(1, 160);
        near("straight down", n.time(1, 0, 100), 30 / 3.0 + 50 / 5.0 + 20 / 10.0, 1e-9);
        near("at a border", n.time(1, 0, 30), 10.0, 1e-9);
        double v0 = 3.0, v1 = 5.0, v2 = 10.0;
        double way = 30 + (30.0 - 10), r = v0 / v1;
        due("border 1", n.time(3, 500, 10), bits(500.0 / v1 + way * Math.sqrt(1.0 / (v0 * v0) - 1.0 / (v1 * v1))));
        double t = 500.0 / v2 + way * Math.sqrt(1.0 / (v0 * v0) - 1.0 / (v2 * v2));
        due("border 2", n.time(4, 500, 10), bits(t + 100.0 * Math.sqrt(1.0 / (v1 * v1) - 1.0 / (v2 * v2))));
        due("the least of them", n.time(0, 500, 10), n.time(4, 500, 10));
        int first = (int) Math.ceil((way * r) / Math.sqrt(1.0 - r * r));
        refusedLong("too near for border 1", n, STATE, x -> x.time(3, first - 1, 10));
        near("just far enough", n.time(3, first, 10), first / v1 + way * Math.sqrt(1.0 / 9 - 1.0 / 25), 1e-9);
        refusedLong("border 0", n, STATE, x -> x.time(2, 500, 10));
        refusedLong("from within it", n, STATE, x -> x.time(3, 500, 30));
        refusedLong("no such layer", n, STATE, x -> x.time(5, 500, 30));
        n.layer(1, 160);
        refusedLong("not faster than all above", n, STATE, x -> x.time(5, 4000, 0));
        n.layer(1, 1);
        n.layer(1, 1);
        refusedLong("the last way there is", n, STATE, x -> x.time(7, 4000, 0));
        for (int k : new int[] {-1, 8, LOW, HIGH}) refusedLong("way", n, OUTSIDE, x -> x.time(k, 1, 1));
        for (int k : new int[] {-1, 4001, LOW, HIGH}) refusedLong("distance", n, OUTSIDE, x -> x.time(0, k, 1));
        for (int k : new int[] {-1, 601, LOW, HIGH}) refusedLong("depth", n, OUTSIDE, x -> x.time(0, 1, k));
        refusedLong("outside ahead of state", new Net(), OUTSIDE, x -> x.time(8, 1, 1));
        Net six = new Net();
        ReferenceNet model = new ReferenceNet();
        int[][] all = {{30, 48}, {50, 80}, {7, 40}, {60, 100}, {20, 130}, {1, 160}};
        for (int[] l : all) {
            six.layer(l[0], l[1]);
            model.layer(l[0], l[1]);
        }
        for (int d = 0; d <= 4000; d += 250) {
            for (int z : new int[] {0, 10, 30, 31, 80, 85, 87, 140, 167, 168, 600}) {
                due("direct", six.time(1, d, z), bits(model.direct(d, z)));
                due("time", six.time(0, d, z), bits(model.timeOf(d, z)));
            }
        }
        Net whole = new Net();
        whole.layer(15, 16);
        whole.layer(15, 34);
        refusedLong("a little too near", whole, STATE, x -> x.time(3, 15, 0));
        near("the first distance is of it", whole.time(3, 16, 0), 16 / 2.125 + 30 * Math.sqrt(1.0 - 1.0 / (2.125 * 2.125)), 1e-9);
        due("border 5", six.time(7, 4000, 0), bits(model.border(5, 4000, 0)));
    }

    private static void table() {
        promise = 28;
        Net n = new Net();
        refused("no layers", n, STATE, x -> x.table(1, 1));
        refused("outside ahead of state", n, OUTSIDE, x -> x.table(0, 1));
        n.layer(10, 48);
        n.layer(10, 100);
        due("table", n.table(100, 75), 369);
        for (int k : new int[] {0, -1, 101, LOW, HIGH}) refused("step", n, OUTSIDE, x -> x.table(k, 1));
        for (int k : new int[] {0, -1, 76, LOW, HIGH}) refused("other", n, OUTSIDE, x -> x.table(1, k));
        for (int i = 0; i <= 40; i += 8) {
            for (int j = 0; j <= 8; j += 4) {
                due("at its own places", n.tabled(i * 800, j * 600), n.time(0, i * 100, j * 75));
            }
        }
        due("table", n.table(1, 1), 369);
    }

    private static void tabled() {
        promise = 29;
        Net n = new Net();
        refusedLong("no layers", n, STATE, x -> x.tabled(1, 1));
        refusedLong("outside ahead of state", n, OUTSIDE, x -> x.tabled(-1, 1));
        n.layer(13, 48);
        n.layer(29, 70);
        n.layer(1, 150);
        due("without a table", n.tabled(8 * 123, 8 * 45), n.time(0, 123, 45));
        n.table(20, 10);
        double a = Double.longBitsToDouble(n.time(0, 100, 40)), b = Double.longBitsToDouble(n.time(0, 120, 40));
        double c = Double.longBitsToDouble(n.time(0, 100, 50)), e = Double.longBitsToDouble(n.time(0, 120, 50));
        double f = (107 + 3 / 8.0) / 20 - 5, g = (46 + 1 / 8.0) / 10 - 4;
        due("between", n.tabled(8 * 107 + 3, 8 * 46 + 1), bits((a * (1.0 - f) + b * f) * (1.0 - g) + (c * (1.0 - f) + e * f) * g));
        due("its last corner", n.tabled(8 * 800, 8 * 80), n.time(0, 800, 80));
        due("beyond its distance", n.tabled(8 * 801, 8 * 80), n.time(0, 801, 80));
        due("beyond its depth", n.tabled(8 * 800, 8 * 81), n.time(0, 800, 81));
        for (int k : new int[] {-1, 32001, LOW, HIGH}) refusedLong("distance", n, OUTSIDE, x -> x.tabled(k, 1));
        for (int k : new int[] {-1, 4801, LOW, HIGH}) refusedLong("depth", n, OUTSIDE, x -> x.tabled(1, k));
        due("edges", n.tabled(32000, 4800), n.time(0, 4000, 600));
    }

    private static void doubt() {
        promise = 30;
        Net n = new Net();
        refusedLong("no layers", n, STATE, x -> x.doubt());
        n.layer(20, 48);
        n.layer(20, 100);
        refusedLong("no table", n, STATE, x -> x.doubt());
        n.table(7, 9);
        ReferenceNet m = new ReferenceNet();
        m.layer(20, 48);
        m.layer(20, 100);
        m.table(7, 9);
        double most = 0.0;
        for (int i = 0; i < 40; i++) {
            for (int j = 0; j < 8; j++) {
                double d = (i + 0.5) * 7, z = (j + 0.5) * 9;
                most = Math.max(most, Math.abs(m.tabledOf(d, z) - m.timeOf(d, z)));
            }
        }
        due("doubt", n.doubt(), bits(most));
    }

    private static void vote() {
        promise = 31;
        Net n = shaken();
        due("too few", n.vote(1000, 0, 0, 5), NONE);
        due("no refusal", n.code(), 0);
        due("no event", n.count(2), 0);
        n.tick();
        due("vote", n.vote(1000, 0, 0, 4), 0);
        for (int w = 0; w < 3; w++) due("place", n.eventAt(0, w), bits(0.0));
        due("origin", n.eventAt(0, 3), bits(20.0));
        due("members", n.event(0, 0), 4);
        due("from", n.event(0, 1), 1);
        for (int k = 0; k < 4; k++) due("member", n.member(0, k), k);
        due("all are members", n.vote(1000, 0, 400, 2), NONE);
        refused("step", n, OUTSIDE, x -> x.vote(199, 0, 0, 2));
        refused("step", n, OUTSIDE, x -> x.vote(1001, 0, 0, 2));
        refused("depth", n, OUTSIDE, x -> x.vote(200, -1, 0, 2));
        refused("depth", n, OUTSIDE, x -> x.vote(200, 601, 0, 2));
        refused("tolerance", n, OUTSIDE, x -> x.vote(200, 0, -1, 2));
        refused("tolerance", n, OUTSIDE, x -> x.vote(200, 0, 401, 2));
        refused("least", n, OUTSIDE, x -> x.vote(200, 0, 0, 1));
        refused("least", n, OUTSIDE, x -> x.vote(200, 0, 0, 17));
        refused("no layers", new Net(), STATE, x -> x.vote(200, 0, 0, 2));
        refused("outside ahead of state", new Net(), OUTSIDE, x -> x.vote(0, 0, 0, 2));
        due("edges", n.vote(200, 600, 400, 16), NONE);
        voteTolerance();
        voteTie();
        voteMembers();
    }

    // two stations at one place, picks 2 apart: tolerance 16 eighths just joins them
    private static void voteTolerance() {
        Net n = new Net();
        n.layer(200, 160);
        alertStation(n, 500, 500);
        alertStation(n, 500, 500);
        pickAt(n, 0, 300, 1000);
        pickAt(n, 1, 302, 1000);
        due("too far apart", n.vote(1000, 0, 15, 2), NONE);
        due("just near enough", n.vote(1000, 0, 16, 2), 0);
        due("the first node", n.eventAt(0, 0), bits(-1000.0));
        due("the first node", n.eventAt(0, 1), bits(-1000.0));
        double d = Math.sqrt(1500.0 * 1500.0 + 1500.0 * 1500.0);
        due("by the first candidate", n.eventAt(0, 3), bits(300 - d / 10.0));
    }

    // both picks of station 1 are 2 from the origin that pick 0 tells
    private static void voteTie() {
        Net n = new Net();
        n.layer(200, 160);
        alertStation(n, 500, 500);
        pickAt(n, 0, 300, 1000);
        alertStation(n, 500, 500);
        skipTo(n, 1, 9);
        row(n, 1, 9, 1, withBeats(32, 298 - 288, 302 - 288));
        n.read(1, 12);
        n.filter(1, 0, 8);
        n.read(1, 20);
        due("picks", n.count(1), 3);
        due("phases", n.pick(1, 2) + n.pick(2, 2), 0);
        due("samples", n.pick(1, 1) * 1000 + n.pick(2, 1), 298302);
        due("vote", n.vote(1000, 0, 16, 2), 0);
        due("the first candidate", n.eventAt(0, 3), bits(300 - Math.sqrt(1500.0 * 1500.0 + 1500.0 * 1500.0) / 10.0));
        due("the first of equals", n.member(0, 1), 1);
        due("not the other", n.pick(2, 4), NONE);
    }

    private static long[] withBeats(int n, int first, int second) {
        long[] xs = ones(n);
        xs[first] = 1000;
        xs[second] = 1000;
        return xs;
    }

    /** Stations with several picks, and phases 1: the nearest of each, in the order of stations. */
    private static void voteMembers() {
        Net n = new Net();
        n.layer(200, 160);
        alertStation(n, 0, 0);
        alertStation(n, 0, 0);
        alertStation(n, 1000, 0);
        // at 1000, 0 alone station 2 hears 100 samples ahead of the others
        pickAt(n, 2, 100, 1000);
        pickAt(n, 1, 203, 1000);
        pickAt(n, 0, 201, 1000);
        long[] rest = new long[32];
        for (int i = 0; i < 32; i++) rest[i] = i % 2 == 0 ? 1 : -1;
        rest[201 - 192] = 1000;
        row(n, 0, 6, 1, rest);
        row(n, 0, 7, 1, ones(32));
        long[] second = ones(32);
        second[273 - 256] = 1000;
        second[277 - 256] = 1000;
        row(n, 0, 8, 1, second);
        n.read(0, 86);
        due("picks", n.count(1), 5);
        due("phases 1", n.pick(3, 2) + n.pick(4, 2), 2);
        due("samples", n.pick(3, 1) * 1000 + n.pick(4, 1), 273277);
        alertStation(n, 0, 0);
        pickAt(n, 3, 209, 1000);
        due("vote", n.vote(1000, 0, 20, 3), 0);
        due("too far off", n.pick(5, 4), NONE);
        due("x", n.eventAt(0, 0), bits(1000.0));
        due("y", n.eventAt(0, 1), bits(0.0));
        due("origin by the one with all votes", n.eventAt(0, 3), bits(101.0));
        due("members", n.event(0, 0), 4);
        due("phases 0", n.event(0, 5), 3);
        int[] want = {2, 4, 1, 0};
        for (int k = 0; k < 4; k++) due("member " + k, n.member(0, k), want[k]);
        due("of 0", n.pick(4, 4), 0);
        due("of none", n.pick(3, 4), NONE);
        due("residual of phase 1", n.residual(0, 1), bits((277 - 101.0) - 100.0 * 1.75));
    }

    private static void event() {
        promise = 32;
        Net n = withEvent();
        int[] fresh = {4, 0, NONE, NONE, NONE, 4, NONE};
        for (int w = 0; w < 7; w++) due("event " + w, n.event(0, w), fresh[w]);
        due("place", n.place(0, 3), 1);
        due("by what", n.event(0, 3), 1);
        due("steps", n.event(0, 4), 0);
        n.tick();
        due("alert", n.event(0, 6), 0);
        for (int k : new int[] {-1, 7, LOW, HIGH}) refused("what", n, OUTSIDE, x -> x.event(0, k));
        for (int k : new int[] {-1, 1, LOW, HIGH}) refused("event", n, UNKNOWN, x -> x.event(k, 9));
        n.rework(0);
        due("members", n.event(0, 0), 3);
        n.rework(1);
        due("members", n.event(0, 0), 0);
        due("until", n.event(0, 2), 1);
        due("by what still", n.event(0, 3), 1);
    }

    private static void eventAt() {
        promise = 33;
        Net n = shaken();
        // from 37 down the arrivals are late
        due("vote", n.vote(1000, 37, 64, 3), 0);
        due("z", n.eventAt(0, 2), bits(37.0));
        double o = Double.longBitsToDouble(n.eventAt(0, 3)), cost = 0.0;
        for (int k = 0; k < 4; k++) {
            double d = 100.0 * (k + 1), t = Math.sqrt(d * d + 37.0 * 37.0) / 1.0;
            double rest = ((120 + 100 * k) - o) - t;
            cost += 1.0 * (rest * rest);
            due("quality of the test", n.pick(k, 3), 1);
        }
        due("cost", n.eventAt(0, 4), bits(cost));
        long before = n.eventAt(0, 4);
        n.layer(100, 160);
        if (n.eventAt(0, 4) == before) due("cost by the arrivals as they are now", 0, 1);
        for (int k : new int[] {-1, 5, LOW, HIGH}) refusedLong("what", n, OUTSIDE, x -> x.eventAt(0, k));
        for (int k : new int[] {-1, 1, LOW, HIGH}) refusedLong("event", n, UNKNOWN, x -> x.eventAt(k, 9));
        for (int s = 0; s < 4; s++) n.rework(s);
        due("cost of none", n.eventAt(0, 4), 0L);
        due("z still", n.eventAt(0, 2), bits(37.0));
    }

    private static void member() {
        promise = 34;
        Net n = withEvent();
        for (int k = 0; k < 4; k++) due("member", n.member(0, k), k);
        for (int k : new int[] {-1, 4, LOW, HIGH}) {
            refused("member", n, UNKNOWN, x -> x.member(0, k));
            refused("event", n, UNKNOWN, x -> x.member(k == 4 ? 1 : k, 0));
        }
    }

    private static void residual() {
        promise = 35;
        Net n = shaken();
        n.vote(1000, 60, 100, 4);
        double o = Double.longBitsToDouble(n.eventAt(0, 3));
        for (int k = 0; k < 4; k++) {
            double d = 100.0 * (k + 1);
            due("residual", n.residual(0, k), bits(((120 + 100 * k) - o) - Math.sqrt(d * d + 60.0 * 60.0) / 1.0));
        }
        for (int k : new int[] {-1, 4, LOW, HIGH}) {
            refusedLong("member", n, UNKNOWN, x -> x.residual(0, k));
            refusedLong("event", n, UNKNOWN, x -> x.residual(k == 4 ? 1 : k, 0));
        }
        due("nought", withEvent().residual(0, 2), 0L);
    }

    /** A shake at 60, -45 and 20, heard all around. */
    private static Net beside() {
        Net n = new Net();
        n.layer(200, 32);
        int[][] places = {{300, 0}, {0, 400}, {-500, 10}, {20, -600}, {700, 700}, {-650, 600}};
        for (int s = 0; s < places.length; s++) {
            alertStation(n, places[s][0], places[s][1]);
            double dx = 60.0 - places[s][0], dy = -45.0 - places[s][1];
            pickAt(n, s, (int) Math.round(20.0 + Math.sqrt(dx * dx + dy * dy) / 2.0), 1000);
        }
        due("vote of the test", n.vote(1000, 0, 400, 6), 0);
        return n;
    }

    private static void place() {
        promise = 36;
        Net n = beside();
        due("x at first", n.eventAt(0, 0), 0L);
        double before = Double.longBitsToDouble(n.eventAt(0, 4));
        due("one step", n.place(0, 1), 0);
        due("by what", n.event(0, 3), 0);
        due("steps", n.event(0, 4), 1);
        due("z stays", n.eventAt(0, 2), 0L);
        if (!(Double.longBitsToDouble(n.eventAt(0, 4)) < before)) due("a lower cost", 0, 1);
        due("settled", n.place(0, 20), 1);
        due("by what", n.event(0, 3), 1);
        near("x", n.eventAt(0, 0), 60.0, 2.0);
        near("y", n.eventAt(0, 1), -45.0, 2.0);
        near("origin", n.eventAt(0, 3), 20.0, 2.0);
        due("rows", n.count(7), 2);
        Net m = withEvent();
        m.rework(3);
        due("three members", m.place(0, 5), 1);
        due("rows", m.count(7), 1);
        Net two = new Net();
        two.layer(200, 160);
        alertStation(two, 500, 500);
        alertStation(two, 500, 500);
        pickAt(two, 0, 300, 1000);
        pickAt(two, 1, 302, 1000);
        two.vote(1000, 0, 400, 2);
        due("singular", two.place(0, 5), 2);
        due("by what", two.event(0, 3), 2);
        due("steps", two.event(0, 4), 0);
        due("a row was taken", two.count(7), 1);
        for (int k : new int[] {0, -1, 21, LOW, HIGH}) refused("steps", n, OUTSIDE, x -> x.place(0, k));
        for (int k : new int[] {-1, 1, LOW, HIGH}) refused("event", n, UNKNOWN, x -> x.place(k, 0));
        n.rework(0);
        refused("taken back", n, STATE, x -> x.place(0, 1));
        refused("outside ahead of state", n, OUTSIDE, x -> x.place(0, 0));
        due("no rows by refused ones", n.count(7), 2);
        due("none out", n.count(6), 0);
    }

    private static void search() {
        promise = 37;
        Net n = beside();
        due("an edge", n.search(0, 1000, 75), 1);
        n = beside();
        due("search", n.search(0, 1000, 10), 1);
        due("x", n.eventAt(0, 0), 0L);
        due("y", n.eventAt(0, 1), 0L);
        due("rows", n.count(7), 1);
        double o = 0.0, best = 0.0, bestZ = 0.0;
        double[] far = new double[6], q = new double[6], at = new double[6];
        for (int s = 0; s < 6; s++) {
            double x = n.status(s, 5), y = n.status(s, 6);
            far[s] = Math.sqrt(x * x + y * y);
            q[s] = n.pick(s, 3);
            at[s] = n.pick(s, 1);
        }
        for (int j = 0; j <= 8; j++) {
            double sum = 0.0, weight = 0.0, cost = 0.0, z = j * 10;
            for (int turn = 0; turn < 2; turn++) {
                for (int s = 0; s < 6; s++) {
                    double t = Math.sqrt(far[s] * far[s] + z * z) / 2.0;
                    if (turn == 0) { sum += q[s] * (at[s] - t); weight += q[s]; }
                    else { double rest = (at[s] - sum / weight) - t; cost += q[s] * (rest * rest); }
                }
            }
            if (j == 0 || cost < best) { best = cost; bestZ = z; o = sum / weight; }
        }
        due("z", n.eventAt(0, 2), bits(bestZ));
        due("origin", n.eventAt(0, 3), bits(o));
        due("cost", n.eventAt(0, 4), bits(best));
        due("a finer one", n.search(0, 400, 0), 1);
        due("z", n.eventAt(0, 2), 0L);
        due("a node of steps from -1000", (int) Double.longBitsToDouble(n.eventAt(0, 0)), 200);
        due("no place yet", n.event(0, 3), NONE);
        searchAtTheEdge();
        refused("step", n, OUTSIDE, x -> x.search(0, 399, 0));
        refused("step", n, OUTSIDE, x -> x.search(0, 1001, 0));
        refused("depth step", n, OUTSIDE, x -> x.search(0, 400, -1));
        refused("depth step", n, OUTSIDE, x -> x.search(0, 400, 76));
        for (int k : new int[] {-1, 1, LOW, HIGH}) refused("event", n, UNKNOWN, x -> x.search(k, 0, 0));
        n.rework(0);
        refused("taken back", n, STATE, x -> x.search(0, 400, 0));
        refused("outside ahead of state", n, OUTSIDE, x -> x.search(0, 0, 0));
        due("rows", n.count(7), 2);
        due("none out", n.count(6), 0);
    }

    private static void searchAtTheEdge() {
        Net n = new Net();
        n.layer(200, 160);
        int[][] places = {{1000, 900}, {900, 1000}, {1000, 500}};
        int[] samples = {310, 310, 350};
        for (int s = 0; s < 3; s++) {
            alertStation(n, places[s][0], places[s][1]);
            pickAt(n, s, samples[s], 1000);
        }
        n.vote(1000, 50, 400, 3);
        due("search", n.search(0, 500, 5), 1);
        due("x", n.eventAt(0, 0), bits(1000.0));
        due("y", n.eventAt(0, 1), bits(1000.0));
        due("z", n.eventAt(0, 2), 0L);
        due("origin", n.eventAt(0, 3), bits(300.0));
    }

    private static void error() {
        promise = 38;
        Net n = beside();
        n.place(0, 20);
        for (int k = 0; k < 3; k++) {
            double e = Double.longBitsToDouble(n.error(0, k));
            if (!(e > 0.0 && e < 3.0)) due("an error of about 1", 0, 1);
        }
        due("rows", n.count(7), 4);
        Net exact = withEvent();
        for (int k = 0; k < 3; k++) due("no cost, no error", exact.error(0, k), 0L);
        due("no refusal", exact.code(), 0);
        for (int k : new int[] {-1, 3, LOW, HIGH}) refusedLong("k", exact, OUTSIDE, x -> x.error(0, k));
        for (int k : new int[] {-1, 1, LOW, HIGH}) refusedLong("event", exact, UNKNOWN, x -> x.error(k, 9));
        due("rows", exact.count(7), 3);
        exact.rework(0);
        refusedLong("three members", exact, STATE, x -> x.error(0, 0));
        exact.rework(1);
        refusedLong("taken back", exact, STATE, x -> x.error(0, 0));
        refusedLong("outside ahead of state", exact, OUTSIDE, x -> x.error(0, 3));
        due("rows", exact.count(7), 3);
        Net flat = new Net();
        flat.layer(200, 160);
        for (int s = 0; s < 4; s++) {
            alertStation(flat, 500, 500);
            pickAt(flat, s, 300, 1000);
        }
        flat.vote(1000, 0, 0, 4);
        refusedLong("singular", flat, STATE, x -> x.error(0, 0));
        due("a row was taken", flat.count(7), 1);
        due("none out", flat.count(6), 0);
    }

    private static void size() {
        promise = 39;
        Net n = new Net();
        n.layer(200, 16);
        int[] far = {100, 200, 300};
        long[] high = {1000, 64, 5000};
        int[][] places = {{100, 0}, {0, 200}, {-300, 0}};
        for (int s = 0; s < 3; s++) {
            alertStation(n, places[s][0], places[s][1]);
            pickAt(n, s, 20 + far[s], high[s]);
            n.term(s, 10 * s);
        }
        n.vote(1000, 0, 0, 2);
        due("members", n.event(0, 0), 3);
        double[] v = new double[3];
        for (int s = 0; s < 3; s++) {
            v[s] = (ReferenceNet.log(high[s]) + 1.5 * ReferenceNet.log(1.0 + far[s])) + (10 * s) / 16.0;
            double plain = Math.log(high[s]) / Math.log(2.0) + 1.5 * Math.log(1.0 + far[s]) / Math.log(2.0) + 10 * s / 16.0;
            near("the log of the test", bits(v[s]), plain, 1e-9);
        }
        due("the middle one", n.size(0), bits(Math.max(Math.min(v[0], v[1]), Math.min(Math.max(v[0], v[1]), v[2]))));
        due("rows", n.count(7), 1);
        n.rework(2);
        due("of an even number", n.size(0), bits((Math.min(v[0], v[1]) + Math.max(v[0], v[1])) * 0.5));
        n.rework(1);
        refusedLong("there is none", n, STATE, x -> x.size(0));
        due("rows", n.count(7), 3);
        for (int k : new int[] {-1, 1, LOW, HIGH}) refusedLong("event", n, UNKNOWN, x -> x.size(k));
        due("rows", n.count(7), 3);
        due("none out", n.count(6), 0);
        sizeOfSilence();
    }

    // a MATCH fires by what is past: its pick, and all behind it, may be silent
    private static void sizeOfSilence() {
        Net n = new Net();
        n.layer(200, 160);
        n.wave(0, 1);
        for (int s = 0; s < 2; s++) {
            n.station(0, 0, 1);
            n.picker(s, 2, 1, 2, 20);
            row(n, s, 0, 1, 1000, 0, 0, 0, 0, 0, 0, 0, 0, 0);
            n.read(s, 10);
        }
        due("vote", n.vote(1000, 0, 0, 2), 0);
        due("amplitude", n.amplitude(0), 0L);
        refusedLong("two members, no size", n, STATE, x -> x.size(0));
        n.rule(2, -1000);
        n.tick();
        due("the rule does not hold", n.count(3), 0);
        due("rows by both", n.count(7), 2);
        sizeOfOne();
    }

    private static void sizeOfOne() {
        Net n = new Net();
        n.layer(200, 160);
        n.wave(0, 1);
        n.station(0, 0, 1);
        n.picker(0, 2, 1, 2, 20);
        row(n, 0, 0, 1, 1000, 0, 0, 0, 0, 0, 0, 0);
        n.read(0, 8);
        alertStation(n, 0, 0);
        row(n, 1, 0, 1, 1, 1, 1, 1, 1, 1, 1, 1024);
        n.read(1, 8);
        due("vote", n.vote(1000, 0, 0, 2), 0);
        double d = Math.sqrt(1000.0 * 1000.0 + 1000.0 * 1000.0);
        due("size by the one that is not silent", n.size(0), bits((10.0 + 1.5 * ReferenceNet.log(1.0 + d)) + 0.0));
        n.rule(2, 0);
        n.tick();
        due("enough for the rule", n.count(3), 1);
    }

    /** Events at one place, three of them 32 samples apart and one far behind. */
    private static Net swarming() {
        Net n = new Net();
        n.layer(200, 160);
        alertStation(n, 0, 0);
        alertStation(n, 0, 0);
        int[] samples = {5, 37, 69, 300};
        for (int e = 0; e < 4; e++) {
            for (int s = 0; s < 2; s++) {
                skipTo(n, s, samples[e] / 32);
                long[] xs = ones(samples[e] % 32 + 1);
                xs[samples[e] % 32] = 1000;
                row(n, s, samples[e] / 32, 1, xs);
                n.read(s, xs.length);
                n.skip(s);
            }
            due("vote", n.vote(1000, 0, 0, 2), e);
        }
        return n;
    }

    private static void swarms() {
        promise = 40;
        Net n = swarming();
        due("each by itself", n.swarms(31), 4);
        due("by others between", n.swarms(32), 2);
        due("all", n.swarms(231), 1);
        due("not all", n.swarms(230), 2);
        due("edges", n.swarms(0), 4);
        due("edges", n.swarms(100000), 1);
        for (int k : new int[] {-1, 100001, LOW, HIGH}) refused("bound", n, OUTSIDE, x -> x.swarms(k));
        due("still", n.swarm(3), 0);
        due("of none", new Net().swarms(5), 0);
        n.rework(0);
        due("known ones alone", n.swarms(100000), 0);
    }

    private static void swarm() {
        promise = 41;
        Net n = swarming();
        for (int e = 0; e < 4; e++) due("ahead of swarms()", n.swarm(e), NONE);
        n.swarms(32);
        int[] want = {0, 0, 0, 3};
        for (int e = 0; e < 4; e++) due("swarm", n.swarm(e), want[e]);
        n.rework(0);
        for (int e = 0; e < 4; e++) due("as it was at the latest", n.swarm(e), want[e]);
        n.swarms(32);
        for (int e = 0; e < 4; e++) due("in none", n.swarm(e), NONE);
        due("no refusal", n.code(), 0);
        for (int k : new int[] {-1, 4, LOW, HIGH}) refused("event", n, UNKNOWN, x -> x.swarm(k));
    }

    private static void known() {
        promise = 42;
        Net n = withEvent();
        n.tick();
        n.tick();
        n.rework(0);
        n.rework(1);
        n.tick();
        int[][] want = {{4, 1, 0}, {4, 1, 1}, {2, 0, 1}, {2, 0, 0}};
        for (int c = 0; c < 4; c++) for (int w = 0; w < 3; w++) due("known(" + c + ", " + w + ")", n.known(c, w), want[c][w]);
        for (int k : new int[] {-1, 4, LOW, HIGH}) refused("c", n, OUTSIDE, x -> x.known(k, 0));
        for (int k : new int[] {-1, 3, LOW, HIGH}) refused("what", n, OUTSIDE, x -> x.known(0, k));
        Net m = shaken();
        m.rework(0);
        due("came and was taken back at once", m.known(0, 0), 3);
    }

    private static void compare() {
        promise = 43;
        Net n = shaken();
        n.tick();
        n.rework(0);
        n.rework(1);
        n.tick();
        n.skip(0);
        n.skip(0);
        due("read again", n.read(0, 57), 0);
        due("two gone, one new", n.compare(0, 2), 3);
        due("the other way", n.compare(2, 0), 3);
        due("two gone", n.compare(0, 1), 2);
        due("one new", n.compare(1, 2), 1);
        due("the same", n.compare(1, 1), 0);
        for (int k : new int[] {-1, 3, LOW, HIGH}) {
            refused("c", n, OUTSIDE, x -> x.compare(k, 0));
            refused("d", n, OUTSIDE, x -> x.compare(0, k));
        }
    }

    private static void digest() {
        promise = 44;
        Net n = withEvent();
        n.rework(3);
        long h = -3750763034362895579L;
        for (int p = 0; p < 3; p++) {
            long[] all = {n.pick(p, 0), n.pick(p, 1), n.pick(p, 2), n.pick(p, 3), n.amplitude(p)};
            for (long v : all) h = (h ^ v) * 1099511628211L;
        }
        long[] all = {0L, 0L, 0L, bits(20.0), 0L, 1L, 2L};
        for (long v : all) h = (h ^ v) * 1099511628211L;
        due("digest", n.digest(), h);
        due("no refusal", n.code(), 0);
        for (int s = 0; s < 4; s++) n.rework(s);
        due("nothing known", n.digest(), -3750763034362895579L);
    }

    private static void count() {
        promise = 45;
        Net n = crowded();
        int[] want = {4, 4, 2, 1, 3, 2, 0, 1, 1, 3};
        for (int w = 0; w < 10; w++) due("count(" + w + ")", n.count(w), want[w]);
        for (int k : new int[] {-1, 10, 17, LOW, HIGH}) refused("what", n, OUTSIDE, x -> x.count(k));
        Net m = new Net();
        m.station(0, 0, 0);
        m.read(0, 1);
        m.ground(0, 0);
        m.spectrum(0, 0, 0);
        due("nothing met by three calls", m.count(11), 3);
        m.packet(0, 0, 0, -5);
        m.packet(0, 0, 1, 5);
        m.raw(1);
        m.packet(0, 0, 0, 0);
        for (int w = 14; w <= 16; w++) due("count(" + w + ")", m.count(w), 1);
        m.lane(1);
        m.packet(0, 0, 1, 3);
        m.read(0, 1);
        m.ground(0, 0);
        m.spectrum(0, 0, 0);
        due("kind", m.count(12), 3);
        m.lane(0);
        m.packet(0, 1, 0, 3);
        m.skip(0);
        m.read(0, 9);
        m.ground(0, 40);
        m.spectrum(0, 1, 0);
        due("short", m.count(13), 3);
    }

    private static void code() {
        promise = 46;
        Net n = new Net();
        due("at first", n.code(), 0);
        n.status(0, 0);
        due("unknown", n.code(), UNKNOWN);
        due("code() is no other call", n.code(), UNKNOWN);
        n.lane(9);
        due("outside", n.code(), OUTSIDE);
        n.doubt();
        due("state", n.code(), STATE);
        for (int i = 0; i < 33; i++) n.raw(i);
        due("room", n.code(), ROOM);
        n.lane(0);
        due("not refused", n.code(), 0);
        n.station(0, 0, 0);
        n.ground(0, 0);
        due("a failure below 0", n.code(), -11);
        n.read(0, 1);
        due("what read() answers is none", n.code(), 0);
        n.packet(0, 0, 0, -1);
        due("a failure below 0", n.code(), -14);
        n.digest();
        due("not refused", n.code(), 0);
        n.lane(9);
        n.now(0, 0);
        due("not refused", n.code(), 0);
        n.layer(1, 1);
        due("none is no refusal", n.vote(200, 0, 0, 2), NONE);
        due("none is no refusal", n.code(), 0);
    }

    public static void main(String[] args) {
        newObject();
        lane();
        raw();
        noise();
        swing();
        station();
        calibrate();
        filter();
        pickerRatioAndChange();
        wave();
        term();
        packet();
        ground();
        spectrum();
        read();
        skip();
        rework();
        status();
        now();
        trace();
        pick();
        amplitude();
        tick();
        rule();
        alert();
        layer();
        time();
        table();
        tabled();
        doubt();
        vote();
        event();
        eventAt();
        member();
        residual();
        place();
        search();
        error();
        size();
        swarms();
        swarm();
        known();
        compare();
        digest();
        count();
        code();
        System.out.println(wrong == 0 ? "all promises are kept" : wrong + " answers are not as due");
        if (wrong != 0) {
            System.exit(1);
        }
        Check.end("promises");
    }
}
