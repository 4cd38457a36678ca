/** The boundary cases of section 2: reading on, being BEGUN ANEW, filters, pickers, PICKS. */
public final class ReadingTest {
    private static final long LEAST_LONG = Long.MIN_VALUE;

    private static void lay(Net n, int station, int block, int kind, long... samples) {
        n.lane(kind);
        for (long v : samples) n.raw(v);
        Check.due("packet of the test", n.packet(station, block, kind, samples.length), samples.length);
    }

    /** A STATION of INTS with a PICKER. */
    private static Net picking(int sort, int shortOne, int longOne, int bound) {
        Net n = new Net();
        n.station(0, 0, 1);
        n.picker(0, sort, shortOne, longOne, bound);
        return n;
    }

    /** A row of silence with these SAMPLES in it, told in turn by their places and numbers. */
    private static void beats(Net n, int block, int... placesAndNumbers) {
        n.lane(1);
        int filled = 0;
        for (int i = 0; i < placesAndNumbers.length; i += 2) {
            if (placesAndNumbers[i] > filled) n.swing(placesAndNumbers[i] - filled, 0, 0);
            n.raw(placesAndNumbers[i + 1]);
            filled = placesAndNumbers[i] + 1;
        }
        n.packet(0, block, 1, 32);
    }

    // ---- the place

    private static void theEnd() {
        Check.says("PLACE, the SAMPLE that it READS next (0 at first; 1024 behind the last one)");
        Net n = picking(0, 4, 16, 48);
        Check.due("at first", n.status(0, 0), 0);
        for (int b = 1; b < 32; b++) Check.due("skip", n.skip(0), 32 * b);
        beats(n, 31);
        Check.due("all but one", n.read(0, 31), 0);
        Check.due("the last one is next", n.status(0, 0), 1023);
        Check.due("the last one", n.read(0, 1), 0);
        Check.due("behind it", n.status(0, 0), 1024);
        Check.due("none is left", n.read(0, 1), 4);
        Check.due("stays there", n.status(0, 0), 1024);
        Check.due("32 were read", n.status(0, 1), 32);
        Check.refuses("skip", n, Check.STATE, m -> m.skip(0));
        Check.due("still 32", n.status(0, 1), 32);
        Check.due("rework", n.rework(0), 0);
        Check.due("from the beginning", n.status(0, 0), 0);
    }

    private static void readToItsEnds() {
        Check.says("read: 0: n times; 1 to 3 the FAILURE (PLACE stays there); 4: PLACE is 1024, and fewer were done");
        Net n = picking(0, 4, 16, 48);
        Check.due("NOTHING", n.read(0, 5), 1);
        Check.due("place", n.status(0, 0), 0);
        lay(n, 0, 0, 1, 1, 2, 3);
        Check.due("so many", n.read(0, 3), 0);
        Check.due("what it answered", n.status(0, 3), 0);
        Check.due("SHORT", n.read(0, 1), 3);
        Check.due("place", n.status(0, 0), 3);
        Check.due("what it answered", n.status(0, 3), 3);
        lay(n, 0, 0, 1, 1, 2, 3, 4);
        Check.due("one more, and SHORT", n.read(0, 128), 3);
        Check.due("place", n.status(0, 0), 4);
        Check.due("as if there were no gap", n.status(0, 1), 4);
        n.skip(0);
        lay(n, 0, 1, 0, 1, 2, 3);
        Check.due("KIND", n.read(0, 1), 2);
        Check.due("place", n.status(0, 0), 32);
        Check.due("met", n.count(11) * 100 + n.count(12) * 10 + n.count(13), 112);
        for (int b = 2; b < 32; b++) n.skip(0);
        beats(n, 31);
        Check.due("fewer than 33 were done", n.read(0, 33), 4);
        Check.due("place", n.status(0, 0), 1024);
        Check.due("what it answered", n.status(0, 3), 4);
        Check.due("it is no FAILURE", n.count(14), 0);
        Check.refuses("refused", n, Check.OUTSIDE, m -> m.read(0, 129));
        Check.due("what it answered stays", n.status(0, 3), 4);
        Net all = picking(0, 4, 16, 48);
        all.lane(1);
        for (int b = 0; b < 32; b++) all.packet(0, b, 1, 32);
        for (int i = 0; i < 8; i++) Check.due("128 of 1024", all.read(0, 128), 0);
        Check.due("none is left", all.read(0, 128), 4);
    }

    private static void skips() {
        Check.says("skip: PLACE is the beginning of the next BLOCK");
        Net n = picking(0, 4, 16, 48);
        n.lane(1);
        n.packet(0, 0, 1, 32);
        Check.due("from 0", n.skip(0), 32);
        n.rework(0);
        n.read(0, 1);
        Check.due("from 1", n.skip(0), 32);
        n.rework(0);
        n.read(0, 31);
        Check.due("from 31", n.skip(0), 32);
        n.rework(0);
        n.read(0, 32);
        Check.due("from 32", n.skip(0), 64);
    }

    // ---- begun anew

    private static final String[] ANEW = {"skip", "rework", "calibrate", "filter", "picker"};

    /** Begins anew by one of the five calls, and lets BLOCK 1 be next. */
    private static void beginAnew(Net n, int by, int filter, int picker) {
        if (by == 0) n.skip(0);
        if (by == 1) n.rework(0);
        if (by == 2) n.calibrate(0, 3, 2, 5);
        if (by == 3) n.filter(0, filter, 11);
        if (by == 4) n.picker(0, picker, 2, 4, 20);
    }

    /** A STATION that has READ all of BLOCK 0 (there is a PICK near its end) or none of it. */
    private static Net running(int filter, int picker, int by, boolean hasRead) {
        Net n = new Net();
        n.station(0, 0, 3);
        n.calibrate(0, 3, 2, 5);
        n.filter(0, filter, 11);
        n.picker(0, picker, 2, 4, 20);
        for (int i = 0; i < 8; i++) n.wave(i, i % 2 == 0 ? 9 - i : i - 9);
        n.lane(3);
        // behind rework() it is BLOCK 0 that is READ again
        for (int b = 0; b < 2; b++) {
            n.noise(14, 90, by == 1 ? 7 : 7 + b);
            n.swing(5, 9000, 700);
            n.noise(8, 90, 3);
            n.swing(5, 9000, 700);
            n.packet(0, b, 3, 32);
        }
        if (hasRead) n.read(0, by == 0 ? 31 : 32);
        else if (by != 1) n.skip(0);
        return n;
    }

    private static void begunAnew() {
        Check.says("It is BEGUN ANEW by skip(), rework(), calibrate(), filter() and picker(): all that is named here for it is 0.0 then");
        for (int by = 0; by < 5; by++) {
            for (int filter = 0; filter < 4; filter++) {
                for (int picker = 0; picker < 4; picker++) {
                    String what = ANEW[by] + " with filter " + filter + " and picker " + picker;
                    Net n = running(filter, picker, by, true), fresh = running(filter, picker, by, false);
                    Check.must(what + ": something is there", n.now(0, 0) != 0L && n.now(0, 1) != 0L && n.status(0, 1) > 0);
                    beginAnew(n, by, filter, picker);
                    Check.due(what + ": no y is kept", n.now(0, 0), 0L);
                    Check.due(what + ": its rate", n.now(0, 1), 0L);
                    Check.due(what + ": no FIT SAMPLE was READ", n.status(0, 1), 0);
                    Check.due(what + ": it is ARMED", n.status(0, 4), 1);
                    goOn(what, n, fresh, by == 1 ? 0 : 32);
                }
            }
        }
    }

    // both READ the same now, and one of them has never READ anything before
    private static void goOn(String what, Net n, Net fresh, int from) {
        int before = n.count(1);
        Check.due(what + ": place", n.status(0, 0), from);
        for (int i = 0; i < 32; i++) {
            n.read(0, 1);
            fresh.read(0, 1);
            Check.due(what + ": y at " + i, n.now(0, 0), fresh.now(0, 0));
            Check.due(what + ": rate at " + i, n.now(0, 1), fresh.now(0, 1));
        }
        int came = n.count(1) - before;
        Check.due(what + ": picks", came, fresh.count(1));
        for (int p = 0; p < came; p++) {
            for (int w = 1; w < 4; w++) Check.due(what + ": pick", n.pick(before + p, w), fresh.pick(p, w));
            Check.due(what + ": amplitude", n.amplitude(before + p), fresh.amplitude(p));
        }
        for (int w : new int[] {1, 4}) Check.due(what + ": status", n.status(0, w), fresh.status(0, w));
    }

    private static void armedAnew() {
        Check.says("BEGUN ANEW: it is ARMED, no PICK was since");
        for (int by = 0; by < 5; by++) {
            Net n = picking(0, 2, 4, 20);
            beats(n, 0, 30, 1000);
            beats(n, 1, 10, 1000);
            n.read(0, 31);
            Check.due("a pick", n.count(1), 1);
            Check.due("armed no more", n.status(0, 4), 0);
            beginAnew(n, by, 0, 0);
            Check.due("armed by " + ANEW[by], n.status(0, 4), 1);
            n.calibrate(0, 0, 1, 1);
            n.read(0, 32);
            Check.due("a second pick", n.count(1), 2);
            Check.due("its PHASE behind " + ANEW[by], n.pick(1, 2), 0);
        }
        Net n = picking(0, 2, 4, 20);
        beats(n, 0, 20, 1000);
        beats(n, 1, 10, 1000);
        n.read(0, 64);
        Check.due("without such a call", n.pick(1, 2), 1);
    }

    private static void notBegunAnew() {
        Check.says("BEGUN ANEW by these alone, not by what is refused, and not by gaps that READING met");
        Net n = running(3, 3, 0, false);
        n.read(0, 20);
        long y = n.now(0, 0), rate = n.now(0, 1);
        Check.refuses("calibrate", n, Check.OUTSIDE, m -> m.calibrate(0, 0, 1, 1001));
        Check.refuses("filter", n, Check.OUTSIDE, m -> m.filter(0, 4, 1));
        Check.refuses("picker", n, Check.OUTSIDE, m -> m.picker(0, 0, 1, 1, 1));
        n.layer(5, 5);
        n.term(0, 5);
        n.tick();
        n.vote(1000, 0, 0, 2);
        n.lane(3);
        n.packet(0, 9, 3, 4);
        Check.due("y", n.now(0, 0), y);
        Check.due("rate", n.now(0, 1), rate);
        Check.due("fit ones", n.status(0, 1), 20);
        n.read(0, 12);
        Check.due("a gap", n.read(0, 1), 1);
        n.read(0, 1);
        Check.due("fit ones", n.status(0, 1), 32);
    }

    // ---- filters

    private static void filtersAtTheirEdges() {
        Check.says("A is a / 16.0: a is 0 .. 16");
        double[] xs = {16, -32, 48, 5, 0, 0};
        for (int a : new int[] {0, 1, 15, 16}) {
            for (int sort = 0; sort < 4; sort++) {
                Net n = picking(0, 4, 16, 48);
                n.filter(0, sort, a);
                lay(n, 0, 0, 1, 16, -32, 48, 5, 0, 0);
                double g = 0.0, h = 0.0, k = 0.0, f = a / 16.0;
                for (double x : xs) {
                    double high = f * ((h + x) - g), low = sort == 3 ? k + f * (high - k) : k + f * (x - k);
                    h = high;
                    g = x;
                    k = low;
                    n.read(0, 1);
                    Check.due("filter " + sort + " by " + a, n.now(0, 0), sort == 0 ? x : sort == 1 ? h : k);
                }
            }
        }
    }

    private static void filterAtFirst() {
        Check.says("filter: which it was (0 and 8 at first)");
        Net n = picking(0, 4, 16, 48);
        Check.due("at first", n.filter(0, 3, 4), 0);
        for (int sort = 0; sort < 4; sort++) Check.due("which it was", n.filter(0, sort, 4), (sort + 3) % 4);
    }

    private static void unfitAreReadOver() {
        Check.says("SAMPLE PLACE is READ, PLACE is 1 more. If its GROUND x is FIT: ..");
        for (int filter = 0; filter < 4; filter++) {
            for (int picker = 0; picker < 4; picker++) {
                Net n = new Net(), without = new Net();
                for (Net m : new Net[] {n, without}) {
                    m.station(0, 0, 3);
                    m.filter(0, filter, 11);
                    m.picker(0, picker, 2, 4, 20);
                    for (int i = 0; i < 8; i++) m.wave(i, i - 3);
                }
                lay(n, 0, 0, 3, 50, LEAST_LONG, -60, 70, LEAST_LONG, LEAST_LONG, 20, 5, 900, 3, 8, 9, LEAST_LONG);
                lay(without, 0, 0, 3, 50, -60, 70, 20, 5, 900, 3, 8, 9);
                Check.due("read", n.read(0, 13), 0);
                without.read(0, 9);
                for (int w = 0; w < 2; w++) Check.due("as if it were not there", n.now(0, w), without.now(0, w));
                Check.due("fit ones", n.status(0, 1), 9);
                Check.due("not fit ones", n.status(0, 2), 4);
                Check.due("place", n.status(0, 0), 13);
                for (int sort = 0; sort < 4; sort++) Check.due("bodies", n.trace(sort), without.trace(sort));
                Check.due("picks", n.count(1), without.count(1));
            }
        }
    }

    // ---- pickers

    private static void ratioOfSilence() {
        Check.says("Its RATE is s / l if l > 0.0, else 0.0");
        for (int sort = 0; sort < 2; sort++) {
            Net n = picking(sort, 1, 4, 16);
            Check.due("without", n.now(0, 1), 0.0);
            beats(n, 0, 8, 1);
            n.read(0, 8);
            Check.due("l is 0.0", n.now(0, 1), 0.0);
            n.read(0, 1);
            Check.due("l is 0.25", n.now(0, 1), sort == 0 ? 4.0 : 2.0);
            n.read(0, 1);
            double e = 0.0 - 0.25, l = 0.25 + (e * e - 0.25) / 4;
            Check.due("s is less, l still above 0.0", n.now(0, 1), sort == 0 ? 0.0 : Math.sqrt((e * e) / l));
        }
        Check.due("in silence no pick comes, and none is armed", silent(), 1);
    }

    private static int silent() {
        Net n = picking(0, 1, 2, 1);
        beats(n, 0);
        n.read(0, 32);
        return n.status(0, 4) - n.count(1);
    }

    private static void matchOfEight() {
        Check.says("MATCH: its RATE is (16.0 * c) / sqrt(p * q) if p * q > 0.0 and there are 8, else 0.0");
        Net n = picking(2, 1, 2, 255);
        lay(n, 0, 0, 1, 0, 3, 0, 0, 0, 0, 0, 0, 0, 0, 5);
        n.wave(0, -7);
        n.read(0, 7);
        Check.due("there are 7", n.now(0, 1), 0.0);
        n.read(0, 1);
        Check.due("there are 8", n.now(0, 1), 0.0);
        n.wave(1, 2);
        Check.due("the eldest but one", n.now(0, 1), (16.0 * 6.0) / Math.sqrt(9.0 * 53.0));
        n.read(0, 1);
        Check.due("the eldest", n.now(0, 1), (16.0 * -21.0) / Math.sqrt(9.0 * 53.0));
        n.read(0, 1);
        Check.due("p is 0.0", n.now(0, 1), 0.0);
        n.read(0, 1);
        n.wave(7, 1);
        Check.due("the latest", n.now(0, 1), (16.0 * 5.0) / Math.sqrt(25.0 * 54.0));
        for (int i : new int[] {0, 1, 7}) n.wave(i, 0);
        Check.due("q is 0.0", n.now(0, 1), 0.0);
    }

    private static void sumsFromNought() {
        Check.says("sums from 0.0 on: noughts below nought do not make a sum below nought");
        Net n = picking(2, 1, 2, 255);
        lay(n, 0, 0, 1, 0, -3, 0, 0, 0, 0, 0, 0);
        for (int i = 0; i < 8; i++) n.wave(i, i == 1 ? 0 : -1);
        n.read(0, 8);
        Check.due("c is 0.0", n.now(0, 1), 0.0);
        Check.says("abs of Math: that of a nought below nought is 0.0");
        Net m = picking(2, 1, 2, 16);
        m.calibrate(0, 0, -1, 1);
        m.wave(0, -1);
        lay(m, 0, 0, 1, 1000, 0, 0, 0, 0, 0, 0, 0, 0);
        m.read(0, 9);
        Check.due("y", m.now(0, 0), -0.0);
        Check.due("a pick by what is past", m.pick(0, 1), 7);
        Check.due("its amplitude", m.amplitude(0), 0.0);
    }

    // y becomes so small behind one beat that y * y is 0.0, and W * y is not
    private static void matchOfTheLeast() {
        Check.says("MATCH: if p * q > 0.0 .. else 0.0, where the y fade");
        Net n = picking(2, 1, 2, 255);
        n.filter(0, 2, 15);
        for (int i = 0; i < 8; i++) n.wave(i, 1 + i);
        beats(n, 0, 0, 1000);
        n.lane(1);
        for (int b = 1; b < 6; b++) n.packet(0, b, 1, 32);
        double[] y = new double[192];
        double k = 0.0;
        int gone = 0, least = 0;
        for (int t = 0; t < 192; t++) {
            k = k + (15 / 16.0) * ((t == 0 ? 1000.0 : 0.0) - k);
            y[t] = k;
            n.read(0, 1);
            double c = 0.0, p = 0.0, q = 0.0;
            for (int i = 0; i < 8 && t >= 7; i++) {
                c = c + (1.0 + i) * y[t - 7 + i];
                p = p + y[t - 7 + i] * y[t - 7 + i];
                q = q + (1.0 + i) * (1.0 + i);
            }
            if (c != 0.0 && p * q == 0.0) gone++;
            if (p > 0.0 && p < 1e-300) least++;
            Check.due("rate at " + t, n.now(0, 1), p * q > 0.0 ? (16.0 * c) / Math.sqrt(p * q) : 0.0);
        }
        Check.must("both sides were met", gone > 0 && least > 0);
    }

    private static void theMiddleOne() {
        Check.says("THREE: max(min(r0, r1), min(max(r0, r1), r2))");
        int[] which = new int[3];
        for (int seed = 0; seed < 80; seed++) {
            Net[] all = new Net[4];
            for (int sort = 0; sort < 4; sort++) {
                all[sort] = picking(sort, 2, 5, 255);
                for (int i = 0; i < 8; i++) all[sort].wave(i, (i * i + seed) % 7 - 3);
                all[sort].lane(1);
                all[sort].noise(16, 3000, seed);
                all[sort].packet(0, 0, 1, 16);
            }
            for (int i = 0; i < 16; i++) {
                double[] r = new double[4];
                for (int sort = 0; sort < 4; sort++) {
                    all[sort].read(0, 1);
                    r[sort] = Check.number(all[sort].now(0, 1));
                }
                for (int w = 0; w < 3; w++) if (r[3] == r[w]) which[w]++;
                double[] sorted = {r[0], r[1], r[2]};
                java.util.Arrays.sort(sorted);
                Check.due("the middle one", Check.bits(r[3]), sorted[1]);
            }
        }
        Check.must("each is the middle one at times", which[0] > 3 && which[1] > 3 && which[2] > 3);
    }

    /** Filter 2 by 15 / 16 fades to the least number there is; then a beat, and one SAMPLE that brings y to just 0.0. */
    private static Net faded(int sort) {
        Net n = picking(sort, 1, 2, 255);
        n.filter(0, 2, 15);
        n.wave(0, 1);
        double k = (15 / 16.0) * -1000.0;
        int least = 0;
        for (; k + (15 / 16.0) * (0.0 - k) != 0.0; least++) k = k + (15 / 16.0) * (0.0 - k);
        for (int b = 0; b <= (least + 8) / 32; b++) {
            n.lane(1);
            for (int t = 32 * b; t < 32 * b + 32; t++) {
                if (b == 0 && t == 0) n.raw(-1000);
                else if (least + 1 >= 32 * b && least + 2 < 32 * b + 32) n.raw(t == least + 1 ? 1 << 24 : t == least + 2 ? -(1 << 20) : 0);
            }
            n.packet(0, b, 1, 32);
        }
        for (int t = 0; t < least + 8; t += 8) n.read(0, Math.min(8, least + 8 - t));
        return n;
    }

    private static void threeOfNoughts() {
        Check.says("THREE: min and max are those of Math, by which a nought below nought is the lesser");
        Check.due("y", faded(2).now(0, 0), 0.0);
        Check.due("RATIO's", faded(0).now(0, 1), 0.0);
        Check.must("CHANGE's", Check.number(faded(1).now(0, 1)) > 0.0);
        Check.due("MATCH's", faded(2).now(0, 1), -0.0);
        Check.due("THREE's", faded(3).now(0, 1), 0.0);
    }

    // ---- picks

    private static void moreThanLong() {
        Check.says("if more than L FIT SAMPLES were READ since it was BEGUN ANEW (this one, too)");
        for (int l : new int[] {2, 16, 64}) {
            for (int at = l - 1; at <= l; at++) {
                Net n = picking(0, 1, l, 16);
                for (int b = 0; b < 3; b++) {
                    if (at / 32 == b) beats(n, b, at % 32, 1000);
                    else beats(n, b);
                }
                n.read(0, 96);
                Check.due("SAMPLE number " + (at + 1) + ", L " + l, n.count(1), at < l ? 0 : 1);
            }
        }
        Check.says("if more than L FIT SAMPLES were READ: those that are not FIT do not count");
        for (int unfit = 0; unfit < 2; unfit++) {
            Net n = new Net();
            n.station(0, 0, 3);
            n.picker(0, 0, 1, 2, 16);
            lay(n, 0, 0, 3, 0, unfit == 1 ? LEAST_LONG : 0, 5000, 0);
            n.read(0, 4);
            Check.due("a pick by the third FIT one", n.count(1), 1 - unfit);
        }
        Net anew = picking(0, 1, 2, 16);
        beats(anew, 0, 20, 1000);
        anew.read(0, 18);
        anew.filter(0, 0, 8);
        anew.read(0, 3);
        Check.due("the third behind filter()", anew.count(1), 1);
        anew = picking(0, 1, 2, 16);
        beats(anew, 0, 20, 1000);
        anew.read(0, 19);
        anew.filter(0, 0, 8);
        anew.read(0, 3);
        Check.due("the second behind filter()", anew.count(1), 0);
    }

    private static void aboveTheBound() {
        Check.says("the RATE is > BOUND (b / 16.0)");
        // behind silence the first beat has a RATE of just L
        for (int l : new int[] {2, 4, 8}) {
            Net n = picking(0, 1, l, 16 * l);
            beats(n, 0, 10, 1024);
            n.read(0, 11);
            Check.due("its rate", n.now(0, 1), (double) l);
            Check.due("just the BOUND", n.count(1), 0);
            Check.due("still armed", n.status(0, 4), 1);
            n = picking(0, 1, l, 16 * l - 1);
            beats(n, 0, 10, 1024);
            n.read(0, 11);
            Check.due("above it", n.count(1), 1);
            Check.due("armed no more", n.status(0, 4), 0);
        }
        Check.says("the RATE is > BOUND, by the least b");
        // 124 of l are left when the 4 comes: 4 / ((124 + 4) / 2) is just 1 / 16
        for (int more = -1; more <= 1; more++) {
            Net n = picking(0, 1, 2, 1);
            lay(n, 0, 0, 1, 64 * (124 + more), 0, 0, 0, 0, 0, 4);
            n.read(0, 7);
            Check.due("its rate", n.now(0, 1), 4.0 / ((128.0 + more) / 2.0));
            Check.due("picks", n.count(1), more < 0 ? 1 : 0);
        }
    }

    private static void pickerAtFirst() {
        Check.says("picker: which it was (0; 4, 16, 48 at first)");
        int picks = 0;
        // SAMPLE 16 is the 17th: its RATE comes to about 3.0
        for (int before = 2500; before <= 2700; before += 10) {
            Net n = new Net();
            n.station(0, 0, 1);
            lay(n, 0, 0, 1, 0, 0, 0, 0, 0, 0, 0, 0, 0, 0, 0, 0, 0, 0, before, 0, 1000);
            double s = 0.0, l = 0.0;
            for (int t = 0; t <= 16; t++) {
                double u = t == 14 ? before : t == 16 ? 1000.0 : 0.0;
                s = s + (u - s) / 4;
                l = l + (u - l) / 16;
            }
            n.read(0, 16);
            Check.due("none by 16", n.count(1), 0);
            n.read(0, 1);
            Check.due("its rate", n.now(0, 1), s / l);
            Check.due("picks by a rate of " + s / l, n.count(1), s / l > 3.0 ? 1 : 0);
            picks += n.count(1);
        }
        Check.must("both sides were met", picks > 0 && picks < 21);
        Net n = new Net();
        n.station(0, 0, 1);
        Check.due("at first", n.picker(0, 3, 4, 16, 48), 0);
        for (int sort = 0; sort < 4; sort++) Check.due("which it was", n.picker(0, sort, 4, 16, 48), (sort + 3) % 4);
    }

    private static void armedAgain() {
        Check.says("Otherwise, if it is not ARMED, and the RATE is < 1.0, it is ARMED again");
        Net n = picking(0, 1, 2, 1);
        for (int b = 0; b < 3; b++) {
            n.lane(1);
            n.swing(32, 1024, 0);
            n.packet(0, b, 1, 32);
        }
        n.read(0, 3);
        Check.due("a pick", n.count(1), 1);
        Check.must("its rate is above 1.0", Check.number(n.now(0, 1)) > 1.0);
        n.read(0, 90);
        Check.due("a rate of 1.0", n.now(0, 1), 1.0);
        Check.due("does not arm it", n.status(0, 4), 0);
        Check.due("no pick", n.count(1), 1);
        lay(n, 0, 3, 1, 1023, 1024);
        n.read(0, 3);
        n.read(0, 1);
        Check.must("a rate below 1.0", Check.number(n.now(0, 1)) < 1.0);
        Check.due("arms it", n.status(0, 4), 1);
        Check.due("and is no pick itself, although it is above the BOUND", n.count(1), 1);
        n.read(0, 1);
        Check.due("the next one is", n.count(1), 2);
        Check.due("its sample", n.pick(1, 1), 97);
        Net slow = picking(0, 16, 2, 1);
        lay(slow, 0, 0, 1, 10000, 9000, 8000, 7000, 6000, 5000, 4000, 3000, 2000, 1000);
        int[] want = {0, 0, 1, 1, 2, 2, 3, 3};
        for (int i = 0; i < want.length; i++) {
            slow.read(0, 1);
            Check.must("between the BOUND and 1.0", Check.number(slow.now(0, 1)) < 1.0 && Check.number(slow.now(0, 1)) > 1 / 16.0);
            Check.due("by turns, at " + i, slow.count(1), want[i]);
        }
    }

    private static void phases() {
        Check.says("its PHASE: 1 if the latest PICK with PHASE 0 of this STATION .. was at most 200 SAMPLES before, else 0");
        Check.due("199 before", phaseBehind(199), 1);
        Check.due("200 before", phaseBehind(200), 1);
        Check.due("201 before", phaseBehind(201), 0);
        Net m = picking(0, 1, 2, 16);
        int[] at = {10, 110, 211, 311, 411, 412, 611, 613};
        for (int b = 0; b < 20; b++) {
            int[] found = new int[0];
            for (int t : at) {
                if (t / 32 == b) {
                    found = java.util.Arrays.copyOf(found, found.length + 2);
                    found[found.length - 2] = t % 32;
                    found[found.length - 1] = 1000;
                }
            }
            beats(m, b, found);
        }
        for (int i = 0; i < 5; i++) m.read(0, 128);
        int[] sample = {10, 110, 211, 311, 411, 611, 613}, phase = {0, 1, 0, 1, 1, 0, 1};
        Check.due("picks (412 is not armed)", m.count(1), sample.length);
        for (int p = 0; p < sample.length; p++) {
            Check.due("sample", m.pick(p, 1), sample[p]);
            Check.due("phase at " + sample[p], m.pick(p, 2), phase[p]);
        }
        Check.says("PHASE by the PICKS of this STATION alone");
        Net two = picking(0, 1, 2, 16);
        beats(two, 0, 10, 1000);
        two.read(0, 32);
        two.station(0, 0, 1);
        two.picker(1, 0, 1, 2, 16);
        lay(two, 1, 0, 1, 0, 0, 0, 0, 0, 0, 0, 0, 0, 0, 0, 1000);
        two.read(1, 12);
        Check.due("phase", two.pick(1, 2), 0);
    }

    private static int phaseBehind(int samples) {
        Net n = picking(0, 1, 2, 16);
        for (int b = 0; b < 8; b++) {
            if (b == 0) beats(n, 0, 10, 1000);
            else if (b == (10 + samples) / 32) beats(n, b, (10 + samples) % 32, 1000);
            else beats(n, b);
        }
        n.read(0, 128);
        n.read(0, 128);
        Check.due("picks", n.count(1), 2);
        Check.due("sample", n.pick(1, 1), 10 + samples);
        return n.pick(1, 2);
    }

    private static void qualities() {
        Check.says("its QUALITY: min(9.0, floor(RATE / BOUND))");
        // L and b, and what 16.0 * L / b comes to
        int[][] all = {{2, 31, 1}, {2, 17, 1}, {2, 16, 2}, {3, 17, 2}, {3, 16, 3}, {9, 17, 8}, {9, 16, 9}, {10, 17, 9}, {10, 16, 9}, {64, 1, 9},
            {8, 15, 8}, {8, 14, 9}, {4, 63, 1}, {4, 33, 1}, {4, 32, 2}};
        for (int[] a : all) {
            Net n = picking(0, 1, a[0], a[1]);
            n.lane(1);
            for (int b = 0; b < 2; b++) n.packet(0, b, 1, 32);
            beats(n, 2, 3, 5040 * 64);
            n.read(0, 68);
            Check.due("its rate", n.now(0, 1), (double) a[0]);
            Check.due("picks", n.count(1), 1);
            Check.due("quality by " + a[0] + " and " + a[1], n.pick(0, 3), a[2]);
        }
    }

    private static void amplitudes() {
        Check.says("its AMPLITUDE: the greatest abs(y) of FIT SAMPLES from its own to the 15th behind it");
        Net n = picking(0, 1, 2, 16);
        beats(n, 0, 0, 9000, 6, 1000, 7, 1000, 20, 1500, 21, -1700, 22, 8000);
        n.read(0, 7);
        Check.due("the pick", n.pick(0, 1), 6);
        Check.due("its own, and none before it", n.amplitude(0), 1000.0);
        n.read(0, 13);
        Check.due("13 behind", n.amplitude(0), 1000.0);
        n.read(0, 1);
        Check.due("14 behind", n.amplitude(0), 1500.0);
        n.read(0, 1);
        Check.due("15 behind", n.amplitude(0), 1700.0);
        n.read(0, 1);
        Check.due("16 behind", n.amplitude(0), 1700.0);
        Check.says("AMPLITUDE of FIT SAMPLES");
        Net d = new Net();
        d.station(0, 0, 3);
        d.picker(0, 0, 1, 2, 16);
        lay(d, 0, 0, 3, 0, 0, 0, 160, LEAST_LONG, LEAST_LONG, -320, LEAST_LONG);
        d.read(0, 8);
        Check.due("over those that are not", d.amplitude(0), 20.0);
        Check.says("AMPLITUDE by y, not by x");
        Net f = picking(0, 1, 2, 16);
        f.filter(0, 2, 8);
        beats(f, 0, 5, 1000, 6, 1000);
        f.read(0, 32);
        Check.due("the second y", f.amplitude(0), 750.0);
    }

    private static void amplitudeCutOff() {
        Check.says("AMPLITUDE of SAMPLES that were READ before it was BEGUN ANEW");
        for (int by = 0; by < 5; by++) {
            Net n = picking(0, 2, 4, 20);
            beats(n, 0, 28, 1000, 29, 1500);
            beats(n, 1, 0, 7000, 1, 7000);
            n.read(0, 30);
            Check.due("so far", n.amplitude(0), 1500.0);
            beginAnew(n, by, 0, 0);
            Check.due("behind " + ANEW[by], n.amplitude(0), 1500.0);
            n.read(0, 8);
            Check.due("and what was READ then", n.amplitude(0), 1500.0);
        }
        Net n = picking(0, 2, 4, 20);
        beats(n, 0, 28, 1000, 29, 1500);
        beats(n, 1, 0, 7000, 1, 7000);
        n.read(0, 40);
        Check.due("without such a call", n.amplitude(0), 7000.0);
    }

    private static void severalAtOnce() {
        Check.says("AMPLITUDE of each PICK, also of those that come within 15 SAMPLES of one another");
        Net n = picking(0, 1, 2, 16);
        beats(n, 0, 3, 100, 5, 200, 7, 300, 9, 400, 11, 500, 13, 600, 15, 700, 17, 800, 19, 900, 21, 1000, 23, 1100);
        n.read(0, 32);
        Check.due("picks", n.count(1), 11);
        double[] want = {800, 900, 1000, 1100, 1100, 1100, 1100, 1100, 1100, 1100, 1100};
        for (int p = 0; p < 11; p++) Check.due("amplitude of " + p, n.amplitude(p), want[p]);
        // many more, each beat higher than the one before: the 7th behind it is the last that counts
        Net m = picking(0, 1, 2, 16);
        for (int b = 0; b < 3; b++) {
            int[] rising = new int[32];
            for (int i = 0; i < 16; i++) {
                rising[2 * i] = 2 * i + 1;
                rising[2 * i + 1] = 1000 + 160 * b + 10 * i;
            }
            beats(m, b, rising);
        }
        m.read(0, 96);
        Check.due("picks", m.count(1), 47);
        for (int p = 0; p < 47; p++) Check.due("amplitude of " + p, m.amplitude(p), 1000.0 + 10.0 * Math.min(47, p + 1 + 7));
    }

    private static void fourHundred() {
        Check.says("A PICK (400 at most ever, numbered from 0 on)");
        Net n = BoundsTest.manyPicks(336);
        n.read(0, 128);
        Check.due("picks", n.count(1), 400);
        Check.due("the last one", n.pick(399, 0), 0);
        Check.due("its sample", n.pick(399, 1), 159);
        Check.refuses("no other", n, Check.UNKNOWN, m -> m.pick(400, 0));
        Check.refuses("no room", n, Check.ROOM, m -> m.read(1, 1));
        Check.due("known", n.known(0, 0), 400);
        int own = n.status(0, 9);
        Check.due("of both", own + n.status(1, 9), 400);
        Check.due("the same", n.compare(0, 0), 0);
        Check.must("a digest", n.digest() != 0L);
        n.layer(1, 1);
        Check.due("an event of the first two", n.vote(1000, 0, 0, 2), 0);
        Check.due("taken back", n.rework(0), own);
        Check.due("taken back", n.rework(1), 400 - own);
        Check.due("no candidates", n.vote(1000, 0, 0, 2), Check.NONE);
        Check.due("known", n.known(0, 0), 0);
    }

    private static void traces() {
        Check.says("trace: 0 RATIO's (by CHANGE, too), 1 CHANGE's, 2 MATCH's (those of a THREE, too), 3 THREE's");
        int[][] want = {{1, 0, 0, 0}, {1, 1, 0, 0}, {0, 0, 1, 0}, {2, 1, 1, 1}};
        int[] sum = new int[4];
        Net n = picking(0, 1, 2, 255);
        lay(n, 0, 0, 1, 1, 2, 3, 4, 5, 6, 7, 8, 9, 10, 11, 12);
        for (int i = 0; i < 12; i++) {
            n.picker(0, i % 4, 1, 2, 255);
            n.read(0, 1);
            n.now(0, 1);
            for (int w = 0; w < 4; w++) {
                sum[w] += want[i % 4][w];
                Check.due("trace " + w, n.trace(w), sum[w]);
            }
        }
        n.read(0, 1);
        n.rework(0);
        for (int w = 0; w < 4; w++) Check.due("by no FAILURE, and ever", n.trace(w), sum[w]);
    }

    public static void main(String[] args) {
        theEnd();
        readToItsEnds();
        skips();
        begunAnew();
        armedAnew();
        notBegunAnew();
        filtersAtTheirEdges();
        filterAtFirst();
        unfitAreReadOver();
        ratioOfSilence();
        matchOfEight();
        sumsFromNought();
        matchOfTheLeast();
        theMiddleOne();
        threeOfNoughts();
        moreThanLong();
        aboveTheBound();
        pickerAtFirst();
        armedAgain();
        phases();
        qualities();
        amplitudes();
        amplitudeCutOff();
        severalAtOnce();
        fourHundred();
        traces();
        Check.end("reading");
    }
}
