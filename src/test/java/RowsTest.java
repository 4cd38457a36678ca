import java.util.function.ToLongFunction;

/** The boundary cases of the codes and of section 1: THE LANE, STATIONS, BLOCKS, PACKETS, THE GROUND. */
public final class RowsTest {
    private static final long LEAST_LONG = Long.MIN_VALUE;

    /** A STATION of a KIND with one row in BLOCK 0. */
    private static Net withRow(int kind, long... samples) {
        Net n = new Net();
        n.station(0, 0, kind);
        lay(n, 0, kind, samples.length, samples);
        return n;
    }

    private static void lay(Net n, int block, int kind, int size, long... samples) {
        n.lane(kind);
        for (long v : samples) n.raw(v);
        Check.due("packet of the test", n.packet(0, block, kind, size), size);
    }

    private static void sample(int kind, long v, double want) {
        Check.due(v + " as KIND " + kind, withRow(kind, v).ground(0, 0), want);
    }

    // ---- the codes

    private static void codesInOrder() {
        Check.says("Codes, the first of these that fits: UNKNOWN, OUTSIDE, STATE, ROOM; then -10 less a FAILURE");
        Net n = new Net();
        Check.refuses("unknown ahead of a failure", n, Check.UNKNOWN, m -> m.packet(0, 0, 0, -1));
        n.station(0, 0, 0);
        Check.refuses("outside ahead of a failure", n, Check.OUTSIDE, m -> m.packet(0, 0, 4, -1));
        Check.refuses("unknown ahead of outside", n, Check.UNKNOWN, m -> m.packet(0, 32, 4, 33));
        Check.refuses("outside ahead of state", n, Check.OUTSIDE, m -> m.vote(199, 0, 0, 2));
        Check.refuses("state", n, Check.STATE, m -> m.vote(200, 0, 0, 2));
        Check.refuses("a failure", n, -11, m -> m.ground(0, 0));
        Check.refuses("unknown ahead of outside", n, Check.UNKNOWN, m -> m.ground(1, 1024));
        Check.refuses("outside ahead of a failure", n, Check.OUTSIDE, m -> m.ground(0, 1024));
        Net full = manyCandidates();
        Check.refuses("state ahead of room", full, Check.STATE, m -> m.vote(1000, 0, 0, 2));
        full.layer(1, 1);
        Check.refuses("room then", full, Check.ROOM, m -> m.vote(1000, 0, 0, 2));
        Check.refuses("outside ahead of room", full, Check.OUTSIDE, m -> m.vote(1000, 0, 0, 1));
    }

    /** 61 PICKS with PHASE 0, and no LAYERS. */
    private static Net manyCandidates() {
        Net n = new Net();
        n.lane(1);
        for (int s = 0; s < 2; s++) {
            n.station(0, 0, 1);
            n.calibrate(s, 500, 1, 1);
            n.picker(s, 0, 1, 2, 16);
            for (int b = 0; b < 4; b++) {
                n.swing(32, 500, 0);
                n.packet(s, b, 1, 32);
            }
        }
        for (int i = 0; i < 61; i++) {
            n.read(i / 31, 4);
            n.filter(i / 31, 0, 8);
        }
        Check.due("picks of the test", n.count(1), 61);
        return n;
    }

    private static void longsTellNought() {
        Check.says("What answers a long tells 0 instead of all these");
        Net n = Scene.make();
        nought(n, Check.UNKNOWN, m -> m.ground(-1, 0), m -> m.spectrum(6, 0, 0), m -> m.spectrum(0, 32, 0), m -> m.now(6, 0),
            m -> m.amplitude(8), m -> m.eventAt(2, 0), m -> m.residual(1, 5), m -> m.residual(2, 0), m -> m.error(-1, 0), m -> m.size(2));
        nought(n, Check.OUTSIDE, m -> m.ground(0, -1), m -> m.spectrum(0, 0, 17), m -> m.now(0, 2), m -> m.time(8, 0, 0),
            m -> m.tabled(-1, 0), m -> m.eventAt(1, 5), m -> m.error(1, 3));
        nought(n, Check.STATE, m -> m.time(7, 0, 0), m -> m.error(0, 0), m -> m.size(0));
        nought(n, -11, m -> m.ground(5, 1023), m -> m.spectrum(5, 31, 0));
        nought(new Net(), Check.STATE, m -> m.time(0, 0, 0), m -> m.tabled(0, 0), m -> m.doubt());
        Net odd = new Net();
        odd.station(0, 0, 0);
        lay(odd, 0, 1, 1, 5);
        lay(odd, 1, 0, 1, 5);
        nought(odd, -12, m -> m.ground(0, 0), m -> m.spectrum(0, 0, 0));
        nought(odd, -13, m -> m.ground(0, 33), m -> m.spectrum(0, 1, 0));
    }

    @SafeVarargs
    private static void nought(Net n, int code, ToLongFunction<Net>... calls) {
        for (int i = 0; i < calls.length; i++) {
            Check.due("call " + i + " of these", calls[i].applyAsLong(n), 0L);
            Check.due("code of call " + i, n.code(), code);
        }
    }

    private static void theCode() {
        Check.says("code(): 0: it was not refused, and told no FAILURE below 0 (what read() answers is none)");
        Net n = new Net();
        Check.due("ahead of any call", n.code(), 0);
        n.station(0, 0, 0);
        n.lane(4);
        Check.due("read", n.read(0, 1), 1);
        Check.due("what read() answers is none", n.code(), 0);
        n.ground(0, 0);
        Check.due("a FAILURE", n.code(), -11);
        Check.due("but code()", n.code(), -11);
        n.count(11);
        Check.due("count() is a call", n.code(), 0);
        n.count(10);
        Check.due("count() is a call", n.code(), Check.OUTSIDE);
    }

    private static void theLatestCode() {
        Check.says("code(): The code of the latest call but code(): each call that is not refused makes it 0");
        clears(m -> m.lane(1), m -> m.raw(1), m -> m.noise(1, 1, 1), m -> m.swing(1, 1, 1), m -> m.station(0, 0, 0),
            m -> m.calibrate(0, 0, 1, 1), m -> m.filter(0, 0, 8), m -> m.picker(0, 0, 4, 16, 48), m -> m.wave(0, 1), m -> m.term(0, 1),
            m -> m.packet(5, 9, 3, 9), m -> m.ground(5, 0), m -> m.spectrum(5, 0, 1), m -> m.read(5, 1), m -> m.skip(0),
            m -> m.rework(0), m -> m.status(0, 0), m -> m.now(0, 0), m -> m.now(0, 1), m -> m.trace(0), m -> m.pick(0, 0),
            m -> m.amplitude(0), m -> m.tick(), m -> m.rule(2, 0), m -> m.alert(0, 0), m -> m.layer(1, 1), m -> m.time(0, 1, 1),
            m -> m.time(1, 1, 1), m -> m.time(3, 4000, 1), m -> m.table(1, 1), m -> m.tabled(1, 1), m -> m.doubt(),
            m -> m.vote(1000, 0, 0, 2), m -> m.event(1, 0), m -> m.eventAt(1, 0), m -> m.eventAt(1, 4), m -> m.member(1, 0),
            m -> m.residual(1, 0), m -> m.place(1, 1), m -> m.search(1, 1000, 0), m -> m.error(1, 0), m -> m.size(1), m -> m.swarms(1),
            m -> m.swarm(1), m -> m.known(0, 0), m -> m.compare(0, 0), m -> m.digest(), m -> m.count(0), m -> m.count(16));
    }

    @SafeVarargs
    private static void clears(ToLongFunction<Net>... calls) {
        for (int i = 0; i < calls.length; i++) {
            Net n = Scene.make();
            n.count(10);
            Check.due("code ahead of call " + i, n.code(), Check.OUTSIDE);
            calls[i].applyAsLong(n);
            Check.due("code behind call " + i, n.code(), 0);
            Check.due("code behind call " + i + ", again", n.code(), 0);
        }
    }

    // ---- the lane

    private static void laneAtFirst() {
        Check.says("THE LANE is a row of up to 32 SAMPLES of a KIND (0 at first, empty)");
        Net n = new Net();
        Check.due("samples", n.count(8), 0);
        Check.due("kind", n.count(9), 0);
        Check.due("none to lose", n.lane(0), 0);
        n.swing(32, 5, 0);
        Check.due("all there is room for", n.count(8), 32);
        Check.refuses("one more", n, Check.ROOM, m -> m.raw(1));
        Check.due("still", n.count(8), 32);
        Check.due("how many it had", n.lane(2), 32);
        Check.due("and empty", n.count(8), 0);
        Check.due("kind", n.count(9), 2);
        n.raw(1);
        Check.due("of the same kind", n.lane(2), 1);
        Check.due("and empty, too", n.count(8), 0);
    }

    private static void numbersAsBits() {
        Check.says("A number v comes there as its lowest 16 bits (KIND 0), 32 bits (1), with sign");
        sample(0, 32767, 32767);
        sample(0, 32768, -32768);
        sample(0, -32768, -32768);
        sample(0, -32769, 32767);
        sample(0, 65535, -1);
        sample(0, 65536, 0.0);
        sample(0, Long.MAX_VALUE, -1);
        sample(0, LEAST_LONG, 0.0);
        sample(1, 2147483647L, 2147483647.0);
        sample(1, 2147483648L, -2147483648.0);
        sample(1, -2147483648L, -2147483648.0);
        sample(1, -2147483649L, 2147483647.0);
        sample(1, 4294967295L, -1);
        sample(1, 4294967296L, 0.0);
        sample(1, Long.MAX_VALUE, -1);
        sample(1, LEAST_LONG, 0.0);
    }

    private static void numbersAsParts() {
        Check.says("as the float v / 16.0f (2), the double v / 16.0 (3), v turned to that first");
        sample(2, 1, 0.0625);
        sample(2, -1, -0.0625);
        sample(2, 0, 0.0);
        sample(2, 16777217, 1048576.0);
        sample(2, 16777219, 1048576.25);
        sample(2, Long.MAX_VALUE, 0x1p59);
        sample(2, LEAST_LONG + 1, -0x1p59);
        sample(3, 1, 0.0625);
        sample(3, 16777217, 1048576.0625);
        sample(3, 9007199254740993L, 0x1p49);
        sample(3, 9007199254740995L, 0x1p49 + 0.25);
        sample(3, Long.MAX_VALUE, 0x1p59);
        sample(3, LEAST_LONG + 1, -0x1p59);
        Check.says("but the least long is not-a-number in these two");
        sample(2, LEAST_LONG, Double.NaN);
        sample(3, LEAST_LONG, Double.NaN);
        Net n = withRow(3, 8, LEAST_LONG, 24);
        Check.due("read over it", n.read(0, 3), 0);
        Check.due("it is not FIT", n.status(0, 2), 1);
        Check.due("the others are", n.status(0, 1), 2);
    }

    private static void numbersOfSwings() {
        Check.says("swing: max(0, size - i * less), for odd i 0 less that");
        Net n = new Net();
        n.station(0, 0, 1);
        n.lane(1);
        n.swing(4, 20, 10);
        n.swing(3, 21, 10);
        n.swing(2, 30000, 30000);
        n.swing(2, 30000, 29999);
        n.swing(3, 0, 0);
        n.packet(0, 0, 1, 14);
        double[] want = {20, -10, 0, 0, 21, -11, 1, 30000, 0, 30000, -1, 0, 0, 0};
        for (int i = 0; i < want.length; i++) Check.due("sample " + i, n.ground(0, i), want[i]);
        n.lane(3);
        n.swing(2, 24, 1);
        Net d = new Net();
        d.station(0, 0, 3);
        d.lane(3);
        d.swing(2, 24, 1);
        d.packet(0, 0, 3, 2);
        Check.due("a sixteenth of it in DOUBLES", d.ground(0, 0), 1.5);
        Check.due("a sixteenth of it in DOUBLES", d.ground(0, 1), -23 / 16.0);
    }

    private static void numbersOfNoise() {
        Check.says("noise: s is s * 6364136223846793005 + 1442695040888963407, (s >>> 33) % (2 * size + 1) - size");
        for (long seed : new long[] {0, -1, LEAST_LONG, Long.MAX_VALUE}) {
            for (int size : new int[] {0, 1, 30000}) {
                Net n = new Net();
                n.station(0, 0, 0);
                n.noise(32, size, seed);
                n.packet(0, 0, 0, 32);
                long s = seed;
                for (int i = 0; i < 32; i++) {
                    s = s * 6364136223846793005L + 1442695040888963407L;
                    long v = Long.remainderUnsigned(s >>> 33, 2L * size + 1) - size;
                    Check.due("sample " + i, n.ground(0, i), (double) v);
                }
            }
        }
    }

    // ---- stations and blocks

    private static void stationsAtFirst() {
        Check.says("STATIONS (16 at most, numbered from 0 on) .. ZERO, UP and DOWN (0, 1, 1 at first), BLOCKS, each with NOTHING at first");
        Net n = new Net();
        for (int s = 0; s < 16; s++) Check.due("its number", n.station(s - 1000, 1000 - s, s % 4), s);
        Check.refuses("a 17th", n, Check.ROOM, m -> m.station(0, 0, 0));
        Check.due("stations", n.count(0), 16);
        Check.refuses("no 17th", n, Check.UNKNOWN, m -> m.status(16, 0));
        for (int s = 0; s < 16; s++) {
            Check.due("x", n.status(s, 5), s - 1000);
            Check.due("y", n.status(s, 6), 1000 - s);
            Check.due("kind", n.status(s, 7), s % 4);
            Check.due("blocks with a row", n.status(s, 8), 0);
        }
        for (int b = 0; b < 32; b++) {
            int t = 32 * b;
            Check.refuses("nothing in " + b, n, -11, m -> m.ground(15, t));
        }
        sample(1, 7, 7.0);
        sample(1, -7, -7.0);
    }

    private static void samplesOfBlocks() {
        Check.says("BLOCKS 0 .. 31, 0 to 32 SAMPLES. SAMPLE t (t 0 .. 1023) is that at place t % 32 of the ROW of BLOCK t / 32");
        Net n = new Net();
        n.station(0, 0, 1);
        n.lane(1);
        for (int b : new int[] {0, 1, 31}) {
            n.swing(32, 500 * b + 100, 1);
            Check.due("a row of 32", n.packet(0, b, 1, 32), 32);
        }
        Check.due("t 0", n.ground(0, 0), 100.0);
        Check.due("t 31", n.ground(0, 31), -69.0);
        Check.due("t 32", n.ground(0, 32), 600.0);
        Check.due("t 63", n.ground(0, 63), -569.0);
        Check.refuses("t 64", n, -11, m -> m.ground(0, 64));
        Check.refuses("t 991", n, -11, m -> m.ground(0, 991));
        Check.due("t 992", n.ground(0, 992), 15600.0);
        Check.due("t 1023", n.ground(0, 1023), -15569.0);
        Check.refuses("t 1024", n, Check.OUTSIDE, m -> m.ground(0, 1024));
        Check.refuses("t -1", n, Check.OUTSIDE, m -> m.ground(0, -1));
        Check.due("a row of 0", n.packet(0, 5, 1, 0), 0);
        Check.due("is a row", n.status(0, 8), 4);
        Check.refuses("block 32", n, Check.UNKNOWN, m -> m.packet(0, 32, 1, 1));
        Check.refuses("block -1", n, Check.UNKNOWN, m -> m.packet(0, -1, 1, 1));
        Check.refuses("33 samples", n, Check.OUTSIDE, m -> m.packet(0, 6, 1, 33));
        Check.due("rows", n.status(0, 8), 4);
    }

    // ---- packets

    private static void packetSizes() {
        Check.says("First a ROW of that KIND with n SAMPLES, all 0, is made; FAILURE 4 SIZE: n is below 0");
        Net n = withRow(1);
        n.raw(5);
        Check.refuses("-1", n, -14, m -> m.packet(0, 1, 1, -1));
        Check.refuses("the least", n, -14, m -> m.packet(0, 1, 1, Check.LOW));
        Check.refuses("ahead of STORE", n, -14, m -> m.packet(0, 1, 2, -1));
        Check.due("met", n.count(14), 3);
        Check.due("the lane stays", n.count(8), 1);
        Check.due("no row came", n.status(0, 8), 1);
        Check.due("5 and noughts", n.packet(0, 1, 1, 4), 4);
        Check.due("the lane's", n.ground(0, 32), 5.0);
        for (int t = 33; t < 36; t++) Check.due("0", n.ground(0, t), 0.0);
        Check.refuses("no more", n, -13, m -> m.ground(0, 36));
        n.lane(1);
        Check.due("0 is not below 0", n.packet(0, 2, 1, 0), 0);
    }

    private static void packetKinds() {
        Check.says("5 STORE: THE LANE is of another KIND");
        for (int lane = 0; lane < 4; lane++) {
            for (int kind = 0; kind < 4; kind++) {
                for (int filled = 0; filled < 2; filled++) {
                    Net n = new Net();
                    n.station(0, 0, 0);
                    n.lane(lane);
                    if (filled == 1) n.raw(1);
                    Check.due("lane of " + lane + " into " + kind, n.packet(0, 0, kind, 1), lane == kind ? 1 : -15);
                    Check.due("met", n.count(15), lane == kind ? 0 : 1);
                    Check.due("the lane", n.count(8), lane == kind ? 0 : filled);
                    Check.due("its kind", n.count(9), lane);
                    Check.due("rows", n.status(0, 8), lane == kind ? 1 : 0);
                }
            }
        }
        Net n = withRow(1);
        n.raw(5);
        Check.refuses("ahead of PLACE", n, -15, m -> m.packet(0, 1, 2, 0));
    }

    private static void packetPlaces() {
        Check.says("6 PLACE: it has more than n. THE LANE is empty then");
        for (int size : new int[] {0, 1, 31}) {
            Net n = withRow(1);
            n.swing(size + 1, 9, 0);
            int few = size;
            Check.refuses("one more than " + size, n, -16, m -> m.packet(0, 1, 1, few));
            Check.due("met", n.count(16), 1);
            Check.due("the lane stays", n.count(8), size + 1);
            Check.due("just so many", n.packet(0, 1, 1, size + 1), size + 1);
            Check.due("the lane is empty", n.count(8), 0);
            Check.due("its kind stays", n.count(9), 1);
        }
    }

    private static void packetOverRow() {
        Check.says("STATE (behind these): there is a ROW that is not of that KIND, has not fewer SAMPLES");
        Net n = withRow(1, 5, 6);
        n.lane(2);
        Check.refuses("another kind", n, Check.STATE, m -> m.packet(0, 0, 2, 32));
        n.lane(1);
        n.raw(5);
        n.raw(6);
        Check.refuses("as many", n, Check.STATE, m -> m.packet(0, 0, 1, 2));
        Check.due("the lane stays", n.count(8), 2);
        Check.due("no FAILURE met", n.count(14) + n.count(15) + n.count(16), 0);
        Check.due("one more", n.packet(0, 0, 1, 3), 3);
        Check.refuses("fewer", n, Check.STATE, m -> m.packet(0, 0, 1, 2));
        Check.due("still there", n.ground(0, 1), 6.0);
        Net none = withRow(1);
        Check.refuses("0 over 0", none, Check.STATE, m -> m.packet(0, 0, 1, 0));
        Check.due("1 over 0", none.packet(0, 0, 1, 1), 1);
        Net all = new Net();
        all.station(0, 0, 1);
        all.lane(1);
        all.packet(0, 0, 1, 31);
        Check.due("32 over 31", all.packet(0, 0, 1, 32), 32);
        Check.refuses("32 over 32", all, Check.STATE, m -> m.packet(0, 0, 1, 32));
    }

    private static void packetBeginnings() {
        Check.says("or has not those with which this one begins (by their bits; of FLOATS and DOUBLES all not-a-numbers are alike)");
        for (int kind = 0; kind < 4; kind++) {
            Net n = withRow(kind, 5, 6, 7);
            longer(n, kind, Check.STATE, 4, 6, 7, 8);
            longer(n, kind, Check.STATE, 5, 6, 8, 8);
            longer(n, kind, Check.STATE, 5, 6);
            longer(n, kind, 0, 5, 6, 7);
            Check.due("the first", n.ground(0, 0), kind < 2 ? 5.0 : 5 / 16.0);
            longer(withRow(kind, 5, 0), kind, 0, 5);
            longer(withRow(kind, 0, 0), kind, 0);
        }
        for (int kind = 2; kind < 4; kind++) {
            longer(withRow(kind, 5, LEAST_LONG), kind, 0, 5, LEAST_LONG, 3);
            longer(withRow(kind, 5, LEAST_LONG), kind, Check.STATE, 5, 0, 3);
            longer(withRow(kind, 5, 0), kind, Check.STATE, 5, LEAST_LONG, 3);
        }
        // in each BLOCK by its own row
        Net last = withRow(1, 8, 9);
        lay(last, 31, 1, 2, 5, 6);
        last.lane(1);
        last.raw(8);
        last.raw(9);
        Check.refuses("the beginning of another BLOCK", last, Check.STATE, m -> m.packet(0, 31, 1, 3));
        lay(last, 31, 1, 3, 5, 6);
        longer(withRow(2, 16777216), 2, 0, 16777217);
        longer(withRow(3, 16777216), 3, Check.STATE, 16777217);
        longer(withRow(0, 65541), 0, 0, 5);
    }

    // a row of six that begins by these
    private static void longer(Net n, int kind, int code, long... samples) {
        n.lane(kind);
        for (long v : samples) n.raw(v);
        Check.due("a longer row", n.packet(0, 0, kind, 6), code == 0 ? 6 : code);
    }

    // ---- reading

    private static void failuresOfReading() {
        Check.says("TO READ SAMPLE t: FAILURE 1 NOTHING: the BLOCK has it; 2 KIND: its ROW is of another KIND; 3 SHORT: no such place");
        for (int kind = 0; kind < 4; kind++) {
            Net n = withRow(kind, 1, 2);
            int other = (kind + 1) % 4;
            lay(n, 1, other, 2, 1, 2);
            lay(n, 2, kind, 0);
            lay(n, 3, other, 0);
            Check.must("the last place", n.ground(0, 1) != 0L);
            Check.refuses("behind it", n, -13, m -> m.ground(0, 2));
            Check.refuses("a row of another kind", n, -12, m -> m.ground(0, 32));
            Check.refuses("KIND ahead of SHORT", n, -12, m -> m.ground(0, 34));
            Check.refuses("an empty row is not NOTHING", n, -13, m -> m.ground(0, 64));
            Check.refuses("an empty row of another kind", n, -12, m -> m.ground(0, 96));
            Check.refuses("NOTHING", n, -11, m -> m.ground(0, 128));
            Check.due("met", n.count(11) * 100 + n.count(12) * 10 + n.count(13), 132);
        }
    }

    // ---- the ground

    private static double ground(int kind, long v, int zero, int up, int down) {
        Net n = withRow(kind, v);
        n.calibrate(0, zero, up, down);
        return Check.number(n.ground(0, 0));
    }

    private static void grounds(double want, int kind, long v, int zero, int up, int down) {
        Check.due("ground of " + v, Check.bits(ground(kind, v, zero, up, down)), want);
    }

    private static void groundOfNumbers() {
        Check.says("THE GROUND of a SAMPLE c: ((c - ZERO) * UP) / DOWN, in floats if the KIND is FLOATS, else in doubles");
        grounds((7.0 * 5.0) / 3.0, 1, 10, 3, 5, 3);
        grounds((-40.0 * -1000.0) / -1000.0, 0, 960, 1000, -1000, -1000);
        grounds((1960.0 * 1000.0) / 1.0, 0, 960, -1000, 1000, 1);
        grounds((double) (((10 / 16.0f - 3.0f) * 5.0f) / 3.0f), 2, 10, 3, 5, 3);
        grounds(((10 / 16.0 - 3.0) * 5.0) / 3.0, 3, 10, 3, 5, 3);
        Check.must("floats are no doubles", ground(2, 10, 3, 5, 3) != ground(3, 10, 3, 5, 3));
        grounds((double) ((((float) 268435456L / 16.0f - 1.0f) * 999.0f) / 7.0f), 2, 268435456L, 1, 999, 7);
        grounds((2147483647.0 + 1000.0) * 1000.0, 1, 2147483647L, -1000, 1000, 1);
        grounds(0.0, 1, 10, 10, 5, 3);
        grounds(-0.0, 1, 10, 10, -5, 3);
        grounds(-0.0, 1, 10, 10, 5, -3);
        grounds(0.0, 1, 10, 10, -5, -3);
        grounds(-0.0, 1, -10, 0, 0, 3);
        grounds(-0.0, 2, -10, 0, 0, 3);
        grounds(0.0, 3, 0, 0, 1, 1);
        Check.due("DOWN at its least", Check.bits(ground(1, 1, 0, 1, 1000)), 1.0 / 1000.0);
    }

    private static void groundOfNoNumbers() {
        Check.says("not-a-number of a SAMPLE that is not a number, and of nought by nought");
        for (int kind = 2; kind < 4; kind++) {
            grounds(Double.NaN, kind, LEAST_LONG, 0, 1, 1);
            grounds(Double.NaN, kind, LEAST_LONG, 5, 0, 0);
            grounds(Double.NaN, kind, LEAST_LONG, 5, 7, 0);
        }
        for (int kind = 2; kind < 4; kind++) {
            grounds(Double.POSITIVE_INFINITY, kind, 1, 0, 1, 0);
            grounds(Double.NEGATIVE_INFINITY, kind, -1, 0, 1, 0);
        }
        for (int kind = 0; kind < 4; kind++) {
            int c = kind < 2 ? 1 : 16;
            grounds(Double.NaN, kind, 5 * c, 5, 7, 0);
            grounds(Double.NaN, kind, 5 * c, 5, -7, 0);
            grounds(Double.NaN, kind, 6 * c, 5, 0, 0);
            grounds(Double.POSITIVE_INFINITY, kind, 6 * c, 5, 7, 0);
            grounds(Double.NEGATIVE_INFINITY, kind, 4 * c, 5, 7, 0);
            grounds(Double.NEGATIVE_INFINITY, kind, 6 * c, 5, -7, 0);
            grounds(Double.POSITIVE_INFINITY, kind, 4 * c, 5, -7, 0);
        }
    }

    private static void fitOnes() {
        Check.says("It is FIT, if it is a number, and not infinite");
        for (int kind = 0; kind < 4; kind++) {
            int c = kind < 2 ? 1 : 16;
            Net n = withRow(kind, 5 * c, 6 * c, 4 * c);
            n.calibrate(0, 5, 7, 0);
            n.read(0, 3);
            Check.due("by a DOWN of 0 none is FIT", n.status(0, 2), 3);
            Check.due("fit ones", n.status(0, 1), 0);
            n.rework(0);
            n.calibrate(0, 5, 0, -1);
            n.read(0, 3);
            Check.due("by an UP of 0 all are", n.status(0, 1), 3);
            Check.due("not fit ones, ever", n.status(0, 2), 3);
        }
    }

    private static void spectrumOfUnfit() {
        Check.says("spectrum: of its SAMPLES i = 0 .. 31 (0.0 for GROUND that is not FIT)");
        Net n = withRow(3, 16, LEAST_LONG, 32);
        n.lane(3);
        n.raw(16);
        n.raw(LEAST_LONG);
        n.raw(32);
        n.packet(0, 0, 3, 32);
        Check.due("k 0", n.spectrum(0, 0, 0), (3.0 * 3.0 + 0.0 * 0.0) / 32.0);
        double c2 = 0.9807852804032304 * 0.9807852804032304 - 0.19509032201612825 * 0.19509032201612825;
        double d2 = 0.19509032201612825 * 0.9807852804032304 + 0.9807852804032304 * 0.19509032201612825;
        double a = 1.0 + 2.0 * c2, b = 0.0 + 2.0 * d2;
        Check.due("k 1", n.spectrum(0, 0, 1), (a * a + b * b) / 32.0);
        n.calibrate(0, 0, 1, 0);
        Check.due("of none that is FIT", n.spectrum(0, 0, 1), 0.0);
        Check.due("not refused", n.code(), 0);
        Check.says("spectrum: FAILURES, of the first SAMPLE that has one");
        Net m = withRow(3, new long[31]);
        Check.refuses("31 are too few", m, -13, x -> x.spectrum(0, 0, 0));
        Check.due("one FAILURE alone", m.count(13), 1);
        m.lane(3);
        m.packet(0, 0, 3, 32);
        Check.due("32 are not", m.spectrum(0, 0, 0), 0.0);
        Check.due("not refused", m.code(), 0);
    }

    public static void main(String[] args) {
        codesInOrder();
        longsTellNought();
        theCode();
        theLatestCode();
        laneAtFirst();
        numbersAsBits();
        numbersAsParts();
        numbersOfSwings();
        numbersOfNoise();
        stationsAtFirst();
        samplesOfBlocks();
        packetSizes();
        packetKinds();
        packetPlaces();
        packetOverRow();
        packetBeginnings();
        failuresOfReading();
        groundOfNumbers();
        groundOfNoNumbers();
        fitOnes();
        spectrumOfUnfit();
        Check.end("rows");
    }
}
