/**
 * A net of ground stations: traces, filters, pickers, travel times, events, sizes, alerts and swarms,
 * all of it as known when. The numbered promises of the document say what each call does.
 */
public final class QuakeNet {
    public static final int UNKNOWN = -101, OUTSIDE = -102, STATE = -103, ROOM = -104, NONE = -109;

    private static final int STATIONS_AT_MOST = 16;
    private static final int PICKS_AT_MOST = 400;
    private static final int EVENTS_AT_MOST = 60;
    private static final int ALERTS_AT_MOST = 200;
    private static final int LAYERS_AT_MOST = 6;
    private static final int MEMBERS_AT_MOST = 2 * STATIONS_AT_MOST;
    private static final int CANDIDATES_AT_MOST = 60;
    private static final int BLOCKS = 32;
    private static final int BLOCK_SIZE = 32;
    private static final int TRACE_END = BLOCKS * BLOCK_SIZE;
    private static final int KINDS = 4;
    private static final int FLOATS = 2;
    private static final int WAVE_SIZE = 8;
    private static final int GRID_EDGE = 1000;
    private static final long LEAST_LONG = -9223372036854775808L;
    private static final long NOT_A_NUMBER_BITS = 9221120237041090560L;
    private static final long INFINITE_BITS = 9218868437227405312L;

    private final Lane lane = new Lane();
    private final Station[] stations = new Station[STATIONS_AT_MOST];
    private final int[] waveform = new int[WAVE_SIZE];
    private final int[] bodies = new int[4];
    private final int[] failures = new int[7];
    private final Picks picks = new Picks();
    private final Layers layers = new Layers();
    private final Events events = new Events(picks);
    private final Voter voter = new Voter(picks, events, layers, stations);
    private final Locator locator = new Locator(picks, events, layers, stations);
    private final Lives alertLives = new Lives(ALERTS_AT_MOST);
    private final int[] alertEvents = new int[ALERTS_AT_MOST];
    private final double[][] workRows = new double[4][64];
    private int rowsOut = 0;
    private int rowsTaken = 0;
    private int stationCount = 0;
    private int ruleStations = 4;
    private int ruleSize = 0;
    private int clock = 0;
    private int lastCode = 0;

    public QuakeNet() {
    }

    // ---- the lane

    public int lane(int kind) {
        if (kind < 0 || kind >= KINDS) {
            return refused(OUTSIDE);
        }
        int had = lane.filled;
        lane.begin(kind);
        return answered(had);
    }

    public int raw(long v) {
        if (lane.filled >= BLOCK_SIZE) {
            return refused(ROOM);
        }
        lane.put(v);
        return answered(lane.filled);
    }

    public int noise(int n, int size, long seed) {
        if (n < 1 || n > BLOCK_SIZE || size < 0 || size > 30000) {
            return refused(OUTSIDE);
        }
        if (lane.filled + n > BLOCK_SIZE) {
            return refused(ROOM);
        }
        long s = seed;
        long width = 2L * size + 1L;
        for (int i = 0; i < n; i++) {
            s = s * 6364136223846793005L + 1442695040888963407L;
            lane.put((s >>> 33) % width - size);
        }
        return answered(lane.filled);
    }

    public int swing(int n, int size, int less) {
        if (n < 1 || n > BLOCK_SIZE || size < 0 || size > 30000 || less < 0 || less > 30000) {
            return refused(OUTSIDE);
        }
        if (lane.filled + n > BLOCK_SIZE) {
            return refused(ROOM);
        }
        for (int i = 0; i < n; i++) {
            int height = Math.max(0, size - i * less);
            lane.put((i & 1) == 1 ? 0 - height : height);
        }
        return answered(lane.filled);
    }

    // ---- stations

    public int station(int x, int y, int kind) {
        if (isOff(x, GRID_EDGE) || isOff(y, GRID_EDGE) || kind < 0 || kind >= KINDS) {
            return refused(OUTSIDE);
        }
        if (stationCount >= STATIONS_AT_MOST) {
            return refused(ROOM);
        }
        int number = stationCount;
        stations[number] = new Station(number, x, y, kind, new Picker(waveform, bodies));
        stationCount = number + 1;
        return answered(number);
    }

    public int calibrate(int station, int zero, int up, int down) {
        Station s = stationAt(station);
        if (s == null) {
            return refused(UNKNOWN);
        }
        if (isOff(zero, 1000) || isOff(up, 1000) || isOff(down, 1000)) {
            return refused(OUTSIDE);
        }
        s.zero = zero;
        s.up = up;
        s.down = down;
        s.beginAnew();
        return answered(1);
    }

    public int filter(int station, int sort, int a) {
        Station s = stationAt(station);
        if (s == null) {
            return refused(UNKNOWN);
        }
        if (sort < 0 || sort > 3 || a < 0 || a > 16) {
            return refused(OUTSIDE);
        }
        int was = s.filter.sort;
        s.filter.sort = sort;
        s.filter.a = a;
        s.beginAnew();
        return answered(was);
    }

    public int picker(int station, int sort, int shortOne, int longOne, int bound) {
        Station s = stationAt(station);
        if (s == null) {
            return refused(UNKNOWN);
        }
        if (sort < 0 || sort > 3 || shortOne < 1 || shortOne > 16) {
            return refused(OUTSIDE);
        }
        if (longOne < 2 || longOne > 64 || bound < 1 || bound > 255) {
            return refused(OUTSIDE);
        }
        int was = s.picker.sort;
        s.picker.tune(sort, shortOne, longOne, bound);
        s.beginAnew();
        return answered(was);
    }

    public int wave(int i, int v) {
        if (i < 0 || i >= WAVE_SIZE || isOff(v, 100)) {
            return refused(OUTSIDE);
        }
        int was = waveform[i];
        waveform[i] = v;
        return answered(was);
    }

    public int term(int station, int v) {
        Station s = stationAt(station);
        if (s == null) {
            return refused(UNKNOWN);
        }
        if (isOff(v, 1000)) {
            return refused(OUTSIDE);
        }
        int was = s.term;
        s.term = v;
        return answered(was);
    }

    public int packet(int station, int block, int kind, int n) {
        Station s = stationAt(station);
        if (s == null || isNoBlock(block)) {
            return refused(UNKNOWN);
        }
        if (kind < 0 || kind >= KINDS || n > BLOCK_SIZE) {
            return refused(OUTSIDE);
        }
        int failure = lane.failureInto(kind, n);
        if (failure != 0) {
            return failed(failure);
        }
        if (!s.takesRow(block, lane, n)) {
            return refused(STATE);
        }
        s.layRow(block, lane, n);
        lane.begin(kind);
        return answered(n);
    }

    public long ground(int station, int t) {
        Station s = stationAt(station);
        if (s == null) {
            return refusedLong(UNKNOWN);
        }
        if (t < 0 || t >= TRACE_END) {
            return refusedLong(OUTSIDE);
        }
        int failure = s.failureAt(t);
        if (failure != 0) {
            return failedLong(failure);
        }
        return answeredLong(s.groundBits(t));
    }

    public long spectrum(int station, int block, int k) {
        Station s = stationAt(station);
        if (s == null || isNoBlock(block)) {
            return refusedLong(UNKNOWN);
        }
        if (k < 0 || k > 16) {
            return refusedLong(OUTSIDE);
        }
        double[] row = takeRow();
        int failure = s.failureInBlock(block);
        double power = failure == 0 ? s.power(block, k, row) : 0.0;
        giveRowBack();
        if (failure != 0) {
            return failedLong(failure);
        }
        return answeredBits(power);
    }

    // ---- reading on

    public int read(int station, int n) {
        Station s = stationAt(station);
        if (s == null) {
            return refused(UNKNOWN);
        }
        if (n < 1 || n > 128) {
            return refused(OUTSIDE);
        }
        // 128 steps bring 64 picks at most, so that behind this test none is ever without room
        if (picks.lives.count > 336) {
            return refused(ROOM);
        }
        int end = s.readOn(n, picks, clock);
        if (end >= 1 && end <= 3) {
            failures[end]++;
        }
        s.lastEnd = end;
        return answered(end);
    }

    public int skip(int station) {
        Station s = stationAt(station);
        if (s == null) {
            return refused(UNKNOWN);
        }
        if (s.place >= TRACE_END) {
            return refused(STATE);
        }
        s.place = (s.place / BLOCK_SIZE + 1) * BLOCK_SIZE;
        s.beginAnew();
        return answered(s.place);
    }

    public int rework(int station) {
        Station s = stationAt(station);
        if (s == null) {
            return refused(UNKNOWN);
        }
        s.place = 0;
        s.beginAnew();
        int back = 0;
        for (int p = 0; p < picks.lives.count; p++) {
            if (picks.station[p] == station && picks.lives.isKnown(p)) {
                picks.lives.takeBack(p, clock);
                events.release(p, clock);
                back++;
            }
        }
        return answered(back);
    }

    public int status(int station, int what) {
        Station s = stationAt(station);
        if (s == null) {
            return refused(UNKNOWN);
        }
        switch (what) {
            case 0: return answered(s.place);
            case 1: return answered(s.picker.fits);
            case 2: return answered(s.unfit);
            case 3: return answered(s.lastEnd);
            case 4: return answered(s.picker.armed ? 1 : 0);
            case 5: return answered(s.x);
            case 6: return answered(s.y);
            case 7: return answered(s.kind);
            case 8: return answered(s.rowsThere());
            case 9: return answered(picks.knownOf(station));
            default: return refused(OUTSIDE);
        }
    }

    public long now(int station, int what) {
        Station s = stationAt(station);
        if (s == null) {
            return refusedLong(UNKNOWN);
        }
        if (what < 0 || what > 1) {
            return refusedLong(OUTSIDE);
        }
        return answeredBits(what == 0 ? s.filter.y : s.picker.rate());
    }

    public int trace(int sort) {
        if (sort < 0 || sort >= bodies.length) {
            return refused(OUTSIDE);
        }
        return answered(bodies[sort]);
    }

    // ---- picks, the clock

    public int pick(int pick, int what) {
        if (!picks.lives.isThere(pick)) {
            return refused(UNKNOWN);
        }
        switch (what) {
            case 0: return answered(picks.station[pick]);
            case 1: return answered(picks.sample[pick]);
            case 2: return answered(picks.phase[pick]);
            case 3: return answered(picks.quality[pick]);
            case 4: return answered(picks.event[pick]);
            case 5: return answered(picks.lives.from[pick]);
            case 6: return answered(picks.lives.until[pick]);
            default: return refused(OUTSIDE);
        }
    }

    public long amplitude(int pick) {
        if (!picks.lives.isThere(pick)) {
            return refusedLong(UNKNOWN);
        }
        return answeredBits(picks.height[pick]);
    }

    public int tick() {
        // each of 60 events brings one alert at most, so that behind this test none is without room
        if (alertLives.count > 140 || clock >= 100000) {
            return refused(ROOM);
        }
        clock++;
        for (int e = 0; e < events.lives.count; e++) {
            renewAlert(e);
        }
        return answered(clock);
    }

    public int rule(int stations, int size) {
        if (stations < 2 || stations > STATIONS_AT_MOST || isOff(size, 1000)) {
            return refused(OUTSIDE);
        }
        ruleStations = stations;
        ruleSize = size;
        return answered(1);
    }

    public int alert(int alert, int what) {
        if (!alertLives.isThere(alert)) {
            return refused(UNKNOWN);
        }
        switch (what) {
            case 0: return answered(alertEvents[alert]);
            case 1: return answered(alertLives.from[alert]);
            case 2: return answered(alertLives.until[alert]);
            default: return refused(OUTSIDE);
        }
    }

    // ---- times

    public int layer(int thick, int speed) {
        if (thick < 1 || thick > 200 || speed < 1 || speed > 160) {
            return refused(OUTSIDE);
        }
        if (layers.count >= LAYERS_AT_MOST) {
            return refused(ROOM);
        }
        return answered(layers.lay(thick, speed));
    }

    public long time(int way, int distance, int depth) {
        if (way < 0 || way > 7 || distance < 0 || distance > 4000 || isNoDepth(depth)) {
            return refusedLong(OUTSIDE);
        }
        if (layers.count == 0) {
            return refusedLong(STATE);
        }
        if (way == 0) {
            return answeredBits(layers.least(distance, depth));
        }
        if (way == 1) {
            return answeredBits(layers.direct(distance, depth));
        }
        double along = layers.along(way - 2, distance, depth);
        return along < 0.0 ? refusedLong(STATE) : answeredBits(along);
    }

    public int table(int step, int other) {
        if (step < 1 || step > 100 || other < 1 || other > 75) {
            return refused(OUTSIDE);
        }
        if (layers.count == 0) {
            return refused(STATE);
        }
        layers.tabulate(step, other);
        return answered(layers.times.length);
    }

    public long tabled(int distance, int depth) {
        if (distance < 0 || distance > 32000 || depth < 0 || depth > 4800) {
            return refusedLong(OUTSIDE);
        }
        if (layers.count == 0) {
            return refusedLong(STATE);
        }
        double d = distance / 8.0;
        double z = depth / 8.0;
        return answeredBits(layers.covers(d, z) ? layers.between(d, z) : layers.least(d, z));
    }

    public long doubt() {
        if (!layers.hasTable()) {
            return refusedLong(STATE);
        }
        return answeredBits(layers.greatestDoubt());
    }

    // ---- events

    public int vote(int step, int depth, int tolerance, int least) {
        if (step < 200 || step > GRID_EDGE || isNoDepth(depth)) {
            return refused(OUTSIDE);
        }
        if (tolerance < 0 || tolerance > 400 || least < 2 || least > STATIONS_AT_MOST) {
            return refused(OUTSIDE);
        }
        if (layers.count == 0) {
            return refused(STATE);
        }
        if (events.lives.count >= EVENTS_AT_MOST || voter.gather() > CANDIDATES_AT_MOST) {
            return refused(ROOM);
        }
        voter.poll(step, depth, tolerance / 8.0);
        if (voter.bestVotes < least) {
            return answered(NONE);
        }
        return answered(voter.elect(depth, tolerance / 8.0, least, clock));
    }

    public int event(int event, int what) {
        if (!events.lives.isThere(event)) {
            return refused(UNKNOWN);
        }
        switch (what) {
            case 0: return answered(events.memberCount[event]);
            case 1: return answered(events.lives.from[event]);
            case 2: return answered(events.lives.until[event]);
            case 3: return answered(events.end[event]);
            case 4: return answered(events.steps[event]);
            case 5: return answered(events.firstPhases(event));
            case 6: return answered(events.alert[event]);
            default: return refused(OUTSIDE);
        }
    }

    public long eventAt(int event, int what) {
        if (!events.lives.isThere(event)) {
            return refusedLong(UNKNOWN);
        }
        switch (what) {
            case 0: return answeredBits(events.x[event]);
            case 1: return answeredBits(events.y[event]);
            case 2: return answeredBits(events.z[event]);
            case 3: return answeredBits(events.origin[event]);
            case 4: return answeredBits(locator.cost(event, events.x[event], events.y[event], events.origin[event]));
            default: return refusedLong(OUTSIDE);
        }
    }

    public int member(int event, int k) {
        if (!events.hasMember(event, k)) {
            return refused(UNKNOWN);
        }
        return answered(events.memberAt(event, k));
    }

    public long residual(int event, int k) {
        if (!events.hasMember(event, k)) {
            return refusedLong(UNKNOWN);
        }
        return answeredBits(locator.rest(event, events.memberAt(event, k)));
    }

    public int place(int event, int steps) {
        if (!events.lives.isThere(event)) {
            return refused(UNKNOWN);
        }
        if (steps < 1 || steps > 20) {
            return refused(OUTSIDE);
        }
        if (!events.lives.isKnown(event)) {
            return refused(STATE);
        }
        double[] row = takeRow();
        int done = 0;
        int end = 0;
        for (int i = 0; i < steps && end == 0; i++) {
            end = locator.step(event, row);
            done = end == 0 ? i + 1 : i;
        }
        giveRowBack();
        events.end[event] = end;
        events.steps[event] = done;
        return answered(end);
    }

    public int search(int event, int step, int depthStep) {
        if (!events.lives.isThere(event)) {
            return refused(UNKNOWN);
        }
        if (step < 400 || step > GRID_EDGE || depthStep < 0 || depthStep > 75) {
            return refused(OUTSIDE);
        }
        if (!events.lives.isKnown(event)) {
            return refused(STATE);
        }
        double[] row = takeRow();
        locator.searchWhole(event, step, depthStep, row);
        giveRowBack();
        return answered(1);
    }

    public long error(int event, int k) {
        if (!events.lives.isThere(event)) {
            return refusedLong(UNKNOWN);
        }
        if (k < 0 || k > 2) {
            return refusedLong(OUTSIDE);
        }
        if (!events.lives.isKnown(event) || events.memberCount[event] < 4) {
            return refusedLong(STATE);
        }
        double[] row = takeRow();
        boolean solved = locator.solveUnit(event, k, row);
        double wide = solved ? locator.width(event, k, row) : 0.0;
        giveRowBack();
        return solved ? answeredBits(wide) : refusedLong(STATE);
    }

    public long size(int event) {
        if (!events.lives.isThere(event)) {
            return refusedLong(UNKNOWN);
        }
        double[] row = takeRow();
        int n = locator.gatherSizes(event, row);
        double middle = Numbers.middleOf(row, n);
        giveRowBack();
        return n == 0 ? refusedLong(STATE) : answeredBits(middle);
    }

    public int swarms(int bound) {
        if (bound < 0 || bound > 100000) {
            return refused(OUTSIDE);
        }
        return answered(events.group(bound));
    }

    public int swarm(int event) {
        if (!events.lives.isThere(event)) {
            return refused(UNKNOWN);
        }
        return answered(events.leader[event]);
    }

    // ---- as known when

    public int known(int c, int what) {
        if (c < 0 || c > clock) {
            return refused(OUTSIDE);
        }
        switch (what) {
            case 0: return answered(picks.lives.knownAt(c));
            case 1: return answered(events.lives.knownAt(c));
            case 2: return answered(alertLives.knownAt(c));
            default: return refused(OUTSIDE);
        }
    }

    public int compare(int c, int d) {
        if (c < 0 || c > clock || d < 0 || d > clock) {
            return refused(OUTSIDE);
        }
        int differing = 0;
        for (int p = 0; p < picks.lives.count; p++) {
            if (picks.lives.wasKnown(p, c) != picks.lives.wasKnown(p, d)) {
                differing++;
            }
        }
        return answered(differing);
    }

    public long digest() {
        long h = picks.mixedInto(-3750763034362895579L);
        return answeredLong(events.mixedInto(h));
    }

    public int count(int what) {
        switch (what) {
            case 0: return answered(stationCount);
            case 1: return answered(picks.lives.count);
            case 2: return answered(events.lives.count);
            case 3: return answered(alertLives.count);
            case 4: return answered(layers.count);
            case 5: return answered(clock);
            case 6: return answered(rowsOut);
            case 7: return answered(rowsTaken);
            case 8: return answered(lane.filled);
            case 9: return answered(lane.kind);
            default: break;
        }
        if (what < 11 || what > 16) {
            return refused(OUTSIDE);
        }
        return answered(failures[what - 10]);
    }

    public int code() {
        return lastCode;
    }

    // ---- what the calls share

    private int answered(int value) {
        lastCode = 0;
        return value;
    }

    private long answeredLong(long value) {
        lastCode = 0;
        return value;
    }

    private long answeredBits(double value) {
        lastCode = 0;
        return Numbers.bitsOf(value);
    }

    private int refused(int why) {
        lastCode = why;
        return why;
    }

    private long refusedLong(int why) {
        lastCode = why;
        return 0L;
    }

    private int failed(int failure) {
        failures[failure]++;
        return refused(-10 - failure);
    }

    private long failedLong(int failure) {
        failures[failure]++;
        return refusedLong(-10 - failure);
    }

    private Station stationAt(int number) {
        return number < 0 || number >= stationCount ? null : stations[number];
    }

    private static boolean isOff(int v, int edge) {
        return v < 0 - edge || v > edge;
    }

    private static boolean isNoBlock(int block) {
        return block < 0 || block >= BLOCKS;
    }

    private static boolean isNoDepth(int depth) {
        return depth < 0 || depth > 600;
    }

    // No call takes a second row while one is out; the bound only keeps the index safe.
    private double[] takeRow() {
        int free = Math.min(rowsOut, workRows.length - 1);
        rowsOut++;
        rowsTaken++;
        return workRows[free];
    }

    private void giveRowBack() {
        rowsOut--;
    }

    private void renewAlert(int e) {
        boolean holds = ruleHolds(e);
        int current = events.alert[e];
        if (holds && current == NONE) {
            int a = alertLives.come(clock);
            if (a != NONE) {
                alertEvents[a] = e;
                events.alert[e] = a;
            }
        }
        if (!holds && current != NONE) {
            alertLives.takeBack(current, clock);
            events.alert[e] = NONE;
        }
    }

    private boolean ruleHolds(int e) {
        // the size takes a work row, which is counted: it may be looked for only behind these tests
        if (!events.lives.isKnown(e) || events.firstPhases(e) < ruleStations) {
            return false;
        }
        double[] row = takeRow();
        int n = locator.gatherSizes(e, row);
        boolean holds = n > 0 && Numbers.middleOf(row, n) >= ruleSize / 16.0;
        giveRowBack();
        return holds;
    }

    /** What the machine's library would tell of doubles, by single acts on them alone. */
    static final class Numbers {
        private Numbers() {
        }

        static double abs(double v) {
            // by a difference, so that a nought below nought becomes plain nought
            return v <= 0.0 ? 0.0 - v : v;
        }

        /** The exponent of v > 0.0 as getExponent tells it: -1023 for all below the least normal one. */
        static int exponentOf(double v) {
            if (v < 2.2250738585072014E-308) {
                return -1023;
            }
            double w = v;
            int n = 0;
            for (int i = 0; i < 17 && w >= 18446744073709551616.0; i++) {
                w = w / 18446744073709551616.0;
                n += 64;
            }
            for (int i = 0; i < 17 && w < 1.0; i++) {
                w = w * 18446744073709551616.0;
                n -= 64;
            }
            for (int k = 32; k > 0; k = k / 2) {
                double power = (double) (1L << k);
                if (w >= power) {
                    w = w / power;
                    n += k;
                }
            }
            return n;
        }

        /** v times 2 to the n, for such v and n that no step on the way loses a bit. */
        static double scaled(double v, int n) {
            double w = v;
            int left = n;
            for (int i = 0; i < 40 && left > 0; i++) {
                int k = Math.min(left, 60);
                w = w * (double) (1L << k);
                left -= k;
            }
            for (int i = 0; i < 40 && left < 0; i++) {
                int k = Math.min(0 - left, 60);
                w = w / (double) (1L << k);
                left += k;
            }
            return w;
        }

        static long bitsOf(double v) {
            if (v == 0.0) {
                // the sign of a nought shows itself behind a division alone
                return 1.0 / v < 0.0 ? LEAST_LONG : 0L;
            }
            long sign = v < 0.0 ? LEAST_LONG : 0L;
            double w = abs(v);
            if (w > 1.7976931348623157E308) {
                return sign | INFINITE_BITS;
            }
            int n = exponentOf(w);
            if (n == -1023) {
                return sign | (long) scaled(w, 1074);
            }
            // the mantissa's own highest bit adds the missing 1 to the exponent
            return sign | (((long) (n + 1022) << 52) + (long) scaled(w, 52 - n));
        }

        /** The square root as the machine rounds it; 0.0 for all that is not above 0.0. */
        static double root(double v) {
            if (!(v > 0.0) || v > 1.7976931348623157E308) {
                return v > 0.0 ? v : 0.0;
            }
            double w = v;
            double back = 1.0 / 67108864.0;
            for (int i = 0; i < 17 && w >= 18014398509481984.0; i++) {
                w = w / 18446744073709551616.0;
                back = back * 4294967296.0;
            }
            for (int i = 0; i < 18 && w < 9.765625E-4; i++) {
                w = w * 18446744073709551616.0;
                back = back / 4294967296.0;
            }
            // now w is 2^-10 .. 2^54; these steps bring it to a whole number of 2^52 .. 2^54
            if (w < 4194304.0) {
                w = w * 4294967296.0;
                back = back / 65536.0;
            }
            if (w < 274877906944.0) {
                w = w * 65536.0;
                back = back / 256.0;
            }
            if (w < 70368744177664.0) {
                w = w * 256.0;
                back = back / 16.0;
            }
            if (w < 1125899906842624.0) {
                w = w * 16.0;
                back = back / 4.0;
            }
            if (w < 4503599627370496.0) {
                w = w * 4.0;
                back = back / 2.0;
            }
            // a straight line is so near to the root of 1.0 .. 4.0 that three steps are enough
            double m = w / 4503599627370496.0;
            double y = m < 2.0 ? 0.4173 * m + 0.5902 : 0.2951 * m + 0.8346;
            y = (y + m / y) * 0.5;
            y = (y + m / y) * 0.5;
            y = (y + m / y) * 0.5;
            // s comes to the root of w * 2^52, rounded down; both products wrap around, but their
            // difference is small, and so it is exact
            long s = (long) (y * 4503599627370496.0);
            long rest = ((long) w << 52) - s * s;
            for (int i = 0; i < 8 && rest < 0L; i++) {
                s = s - 1L;
                rest = rest + (2L * s + 1L);
            }
            for (int i = 0; i < 8 && rest > 2L * s; i++) {
                rest = rest - (2L * s + 1L);
                s = s + 1L;
            }
            return (double) (rest > s ? s + 1L : s) * back;
        }

        /** LOG of v > 0.0, to the base 2. */
        static double log(double v) {
            int n = exponentOf(v);
            double m = scaled(v, 0 - n);
            double t = (m - 1.0) / (m + 1.0);
            double w = t * t;
            double s = 0.0;
            for (int i = 19; i >= 1; i -= 2) {
                s = s * w + 1.0 / i;
            }
            return n + ((2.0 * t) * s) * 1.4426950408889634;
        }

        static double middleOfThree(double a, double b, double c) {
            double low = a < b ? a : b;
            double high = a < b ? b : a;
            double upper = c < high ? c : high;
            return low >= upper ? low : upper;
        }

        /** The middle one of the first n numbers of a row, which it puts in order; 0.0 of none. */
        static double middleOf(double[] row, int n) {
            if (n < 1 || n > row.length) {
                return 0.0;
            }
            for (int i = 1; i < n; i++) {
                double v = row[i];
                int at = i;
                while (at > 0 && row[at - 1] > v) {
                    row[at] = row[at - 1];
                    at--;
                }
                row[at] = v;
            }
            if ((n & 1) == 1) {
                return row[n / 2];
            }
            return (row[n / 2 - 1] + row[n / 2]) * 0.5;
        }

        /**
         * Solves three equations. N lies by rows at 0 .. 8 of the work row, B at 9 .. 11, and the
         * answer comes to 12 .. 14; false if N is SINGULAR.
         */
        static boolean solve(double[] r) {
            if (r.length < 15) {
                return false;
            }
            for (int c = 0; c < 3; c++) {
                int top = c;
                for (int i = c + 1; i < 3; i++) {
                    if (abs(r[3 * i + c]) > abs(r[3 * top + c])) {
                        top = i;
                    }
                }
                if (!(abs(r[3 * top + c]) > 1.0E-9)) {
                    return false;
                }
                changePlaces(r, top, c);
                for (int i = c + 1; i < 3; i++) {
                    double t = r[3 * i + c] / r[3 * c + c];
                    for (int k = c; k < 3; k++) {
                        r[3 * i + k] = r[3 * i + k] - t * r[3 * c + k];
                    }
                    r[9 + i] = r[9 + i] - t * r[9 + c];
                }
            }
            r[14] = r[11] / r[8];
            r[13] = (r[10] - r[5] * r[14]) / r[4];
            r[12] = ((r[9] - r[1] * r[13]) - r[2] * r[14]) / r[0];
            return true;
        }

        private static void changePlaces(double[] r, int i, int c) {
            for (int k = 0; k < 3; k++) {
                double n = r[3 * i + k];
                r[3 * i + k] = r[3 * c + k];
                r[3 * c + k] = n;
            }
            double b = r[9 + i];
            r[9 + i] = r[9 + c];
            r[9 + c] = b;
        }

        // No sample is ever so great, so this stands for one that is not a number:
        // acts on the machine's own not-a-number are none that the program may do.
        static double noNumber() {
            return 1.0E300;
        }

        static boolean isNumber(double sample) {
            return sample < 1.0E299;
        }
    }

    /** THE LANE. Samples of every kind lie in doubles, which hold them all exactly. */
    static final class Lane {
        private final double[] samples = new double[BLOCK_SIZE];
        private int kind = 0;
        private int filled = 0;

        void begin(int newKind) {
            kind = newKind;
            filled = 0;
        }

        void put(long v) {
            if (filled < samples.length) {
                samples[filled] = turned(v);
                filled++;
            }
        }

        private double turned(long v) {
            if (kind == 0) {
                return (double) (short) v;
            }
            if (kind == 1) {
                return (double) (int) v;
            }
            if (v == LEAST_LONG) {
                return Numbers.noNumber();
            }
            return kind == FLOATS ? (double) ((float) v / 16.0f) : (double) v / 16.0;
        }

        /** A row made of the lane holds 0 behind the lane's own samples. */
        double sampleOfRow(int i) {
            return i >= 0 && i < filled ? samples[i] : 0.0;
        }

        /** The FAILURE that a row of a kind with n samples meets when the lane is copied to it, or 0. */
        int failureInto(int rowKind, int n) {
            if (n < 0) {
                return 4;
            }
            if (rowKind != kind) {
                return 5;
            }
            return filled > n ? 6 : 0;
        }
    }

    /** A STATION: its blocks, its place in them, its filter and its picker. */
    static final class Station {
        private static final int NO_ROW = -1;

        private final int number;
        private final int x;
        private final int y;
        private final int kind;
        private final double[] samples = new double[TRACE_END];
        private final int[] rowKind = new int[BLOCKS];
        private final int[] rowSize = new int[BLOCKS];
        private final Filter filter = new Filter();
        private final Picker picker;
        private final int[] open = new int[16];
        private int openCount = 0;
        private int lastFirstPhase = NONE;
        private int zero = 0;
        private int up = 1;
        private int down = 1;
        private int term = 0;
        private int place = 0;
        private int lastEnd = 0;
        private int unfit = 0;

        Station(int number, int x, int y, int kind, Picker picker) {
            this.number = number;
            this.x = x;
            this.y = y;
            this.kind = kind;
            this.picker = picker;
            for (int b = 0; b < BLOCKS; b++) {
                rowKind[b] = NO_ROW;
            }
        }

        void beginAnew() {
            filter.beginAnew();
            picker.beginAnew();
            lastFirstPhase = NONE;
            openCount = 0;
        }

        int rowsThere() {
            int there = 0;
            for (int b = 0; b < BLOCKS; b++) {
                if (rowKind[b] != NO_ROW) {
                    there++;
                }
            }
            return there;
        }

        /** Whether a row made of the lane only tells more than the row that is there, if one is. */
        boolean takesRow(int block, Lane lane, int n) {
            if (rowKind[block] == NO_ROW) {
                return true;
            }
            if (rowKind[block] != lane.kind || rowSize[block] >= n) {
                return false;
            }
            for (int i = 0; i < rowSize[block]; i++) {
                if (samples[block * BLOCK_SIZE + i] != lane.sampleOfRow(i)) {
                    return false;
                }
            }
            return true;
        }

        void layRow(int block, Lane lane, int n) {
            rowKind[block] = lane.kind;
            rowSize[block] = n;
            for (int i = 0; i < n && i < BLOCK_SIZE; i++) {
                samples[block * BLOCK_SIZE + i] = lane.sampleOfRow(i);
            }
        }

        /** The FAILURE of reading sample t (0 .. 1023), or 0. */
        int failureAt(int t) {
            int block = t / BLOCK_SIZE;
            if (rowKind[block] == NO_ROW) {
                return 1;
            }
            if (rowKind[block] != kind) {
                return 2;
            }
            return t % BLOCK_SIZE >= rowSize[block] ? 3 : 0;
        }

        int failureInBlock(int block) {
            for (int i = 0; i < BLOCK_SIZE; i++) {
                int failure = failureAt(block * BLOCK_SIZE + i);
                if (failure != 0) {
                    return failure;
                }
            }
            return 0;
        }

        // Samples and settings are so small that a division by nought alone leads beyond the numbers.
        private boolean isFit(int t) {
            return down != 0 && Numbers.isNumber(samples[t]);
        }

        /** THE GROUND of a sample that is a number, ahead of the division. */
        private double lifted(int t) {
            if (kind == FLOATS) {
                return (double) (((float) samples[t] - (float) zero) * (float) up);
            }
            return (samples[t] - zero) * up;
        }

        /** THE GROUND of a FIT sample. */
        private double groundAt(int t) {
            if (down == 0) {
                return 0.0;
            }
            if (kind == FLOATS) {
                return (double) ((float) lifted(t) / (float) down);
            }
            return lifted(t) / down;
        }

        long groundBits(int t) {
            if (isFit(t)) {
                return Numbers.bitsOf(groundAt(t));
            }
            if (!Numbers.isNumber(samples[t]) || lifted(t) == 0.0) {
                return NOT_A_NUMBER_BITS;
            }
            return lifted(t) < 0.0 ? LEAST_LONG | INFINITE_BITS : INFINITE_BITS;
        }

        /** The power of wave k in a block without FAILURES; the work row takes C and D. */
        double power(int block, int k, double[] row) {
            if (row.length < 64) {
                return 0.0;
            }
            row[0] = 1.0;
            row[32] = 0.0;
            for (int i = 0; i < 31; i++) {
                row[i + 1] = row[i] * 0.9807852804032304 - row[32 + i] * 0.19509032201612825;
                row[33 + i] = row[32 + i] * 0.9807852804032304 + row[i] * 0.19509032201612825;
            }
            double a = 0.0;
            double b = 0.0;
            for (int i = 0; i < BLOCK_SIZE; i++) {
                int t = block * BLOCK_SIZE + i;
                double g = isFit(t) ? groundAt(t) : 0.0;
                int turn = (i * k) % 32;
                a = a + g * row[turn];
                b = b + g * row[32 + turn];
            }
            return (a * a + b * b) / 32.0;
        }

        /** Steps n times at most; what read() answers. */
        int readOn(int n, Picks picks, int clock) {
            for (int i = 0; i < n; i++) {
                if (place >= TRACE_END) {
                    return 4;
                }
                int failure = failureAt(place);
                if (failure != 0) {
                    return failure;
                }
                stepOver(picks, clock);
            }
            return 0;
        }

        private void stepOver(Picks picks, int clock) {
            int t = place;
            place++;
            if (!isFit(t)) {
                unfit++;
                return;
            }
            filter.pass(groundAt(t));
            picker.take(filter.y);
            double height = Numbers.abs(filter.y);
            raiseOpen(t, height, picks);
            double rate = picker.rate();
            if (picker.fires(rate)) {
                bringPick(t, picker.qualityOf(rate), height, picks, clock);
            }
        }

        // A pick's amplitude still grows by the 15 samples behind it.
        private void raiseOpen(int t, double height, Picks picks) {
            int still = 0;
            for (int i = 0; i < openCount; i++) {
                int p = open[i];
                if (t - picks.sample[p] <= 15) {
                    picks.height[p] = height > picks.height[p] ? height : picks.height[p];
                    open[still] = p;
                    still++;
                }
            }
            openCount = still;
        }

        private void bringPick(int t, int quality, double height, Picks picks, int clock) {
            boolean second = lastFirstPhase != NONE && t - lastFirstPhase <= 200;
            int p = picks.lives.come(clock);
            if (p == NONE) {
                return;
            }
            picks.station[p] = number;
            picks.sample[p] = t;
            picks.phase[p] = second ? 1 : 0;
            picks.quality[p] = quality;
            picks.event[p] = NONE;
            picks.height[p] = height;
            if (!second) {
                lastFirstPhase = t;
            }
            if (openCount < open.length) {
                open[openCount] = p;
                openCount++;
            }
        }
    }

    /** A station's FILTER. */
    static final class Filter {
        private int sort = 0;
        private int a = 8;
        private double g = 0.0;
        private double h = 0.0;
        private double k = 0.0;
        private double y = 0.0;

        void beginAnew() {
            g = 0.0;
            h = 0.0;
            k = 0.0;
            y = 0.0;
        }

        void pass(double x) {
            double factor = a / 16.0;
            y = x;
            if (sort == 1 || sort == 3) {
                h = factor * ((h + x) - g);
                g = x;
                y = h;
            }
            if (sort == 2 || sort == 3) {
                k = k + factor * (y - k);
                y = k;
            }
        }
    }

    /** A station's PICKER: RATIO, CHANGE, MATCH, or THREE over one of each. */
    static final class Picker {
        private static final int RATIO = 0;
        private static final int CHANGE = 1;
        private static final int MATCH = 2;
        private static final int THREE = 3;

        private final int[] waveform;
        private final int[] bodies;
        // at RATIO the one of a RATIO itself, at CHANGE the one that a CHANGE has
        private final double[] shorts = new double[2];
        private final double[] longs = new double[2];
        private final double[] last = new double[WAVE_SIZE];
        private int lastCount = 0;
        private double mean = 0.0;
        private int sort = RATIO;
        private int shortOne = 4;
        private int longOne = 16;
        private int bound = 48;
        private int fits = 0;
        private boolean armed = true;

        Picker(int[] waveform, int[] bodies) {
            this.waveform = waveform;
            this.bodies = bodies;
        }

        void tune(int newSort, int newShort, int newLong, int newBound) {
            sort = newSort;
            shortOne = Math.max(1, newShort);
            longOne = Math.max(1, newLong);
            bound = Math.max(1, newBound);
        }

        void beginAnew() {
            for (int i = 0; i < 2; i++) {
                shorts[i] = 0.0;
                longs[i] = 0.0;
            }
            mean = 0.0;
            lastCount = 0;
            fits = 0;
            armed = true;
        }

        void take(double y) {
            fits++;
            if (sort == THREE) {
                bodies[THREE]++;
            }
            if (sort == RATIO || sort == THREE) {
                takeRatio(RATIO, Numbers.abs(y));
            }
            if (sort == CHANGE || sort == THREE) {
                bodies[CHANGE]++;
                double e = y - mean;
                mean = mean + e / longOne;
                takeRatio(CHANGE, e * e);
            }
            if (sort == MATCH || sort == THREE) {
                bodies[MATCH]++;
                keep(y);
            }
        }

        private void takeRatio(int which, double u) {
            bodies[RATIO]++;
            shorts[which] = shorts[which] + (u - shorts[which]) / shortOne;
            longs[which] = longs[which] + (u - longs[which]) / longOne;
        }

        private void keep(double y) {
            for (int i = 1; i < WAVE_SIZE; i++) {
                last[i - 1] = last[i];
            }
            last[WAVE_SIZE - 1] = y;
            lastCount = Math.min(WAVE_SIZE, lastCount + 1);
        }

        /** The RATE by the waveform as it is now. */
        double rate() {
            if (sort == RATIO) {
                return ratioRate(RATIO);
            }
            if (sort == CHANGE) {
                return Numbers.root(ratioRate(CHANGE));
            }
            if (sort == MATCH) {
                return matchRate();
            }
            return Numbers.middleOfThree(ratioRate(RATIO), Numbers.root(ratioRate(CHANGE)), matchRate());
        }

        private double ratioRate(int which) {
            return longs[which] > 0.0 ? shorts[which] / longs[which] : 0.0;
        }

        private double matchRate() {
            if (lastCount < WAVE_SIZE) {
                return 0.0;
            }
            double c = 0.0;
            double p = 0.0;
            double q = 0.0;
            for (int i = 0; i < WAVE_SIZE; i++) {
                double w = waveform[i];
                c = c + w * last[i];
                p = p + last[i] * last[i];
                q = q + w * w;
            }
            double both = p * q;
            return both > 0.0 ? (16.0 * c) / Numbers.root(both) : 0.0;
        }

        /** Whether a pick comes by this rate; it is armed no more then, or else perhaps again. */
        boolean fires(double rate) {
            if (fits > longOne && rate > bound / 16.0 && armed) {
                armed = false;
                return true;
            }
            if (!armed && rate < 1.0) {
                armed = true;
            }
            return false;
        }

        int qualityOf(double rate) {
            double times = rate / (bound / 16.0);
            return times >= 9.0 ? 9 : (int) times;
        }
    }

    /** From when until when the things of one sort are KNOWN. */
    static final class Lives {
        private final int[] from;
        private final int[] until;
        private int count = 0;

        Lives(int atMost) {
            from = new int[Math.max(0, atMost)];
            until = new int[Math.max(0, atMost)];
        }

        /** The number of one more, or NONE without room. */
        int come(int clock) {
            if (count >= from.length) {
                return NONE;
            }
            from[count] = clock;
            until[count] = NONE;
            count++;
            return count - 1;
        }

        void takeBack(int i, int clock) {
            until[i] = clock;
        }

        boolean isThere(int i) {
            return i >= 0 && i < count;
        }

        boolean isKnown(int i) {
            return until[i] == NONE;
        }

        boolean wasKnown(int i, int c) {
            return from[i] <= c && (until[i] == NONE || c < until[i]);
        }

        int knownAt(int c) {
            int n = 0;
            for (int i = 0; i < count; i++) {
                if (wasKnown(i, c)) {
                    n++;
                }
            }
            return n;
        }
    }

    /** All PICKS ever. */
    static final class Picks {
        private final Lives lives = new Lives(PICKS_AT_MOST);
        private final int[] station = new int[PICKS_AT_MOST];
        private final int[] sample = new int[PICKS_AT_MOST];
        private final int[] phase = new int[PICKS_AT_MOST];
        private final int[] quality = new int[PICKS_AT_MOST];
        private final int[] event = new int[PICKS_AT_MOST];
        private final double[] height = new double[PICKS_AT_MOST];

        int knownOf(int number) {
            int n = 0;
            for (int p = 0; p < lives.count; p++) {
                if (station[p] == number && lives.isKnown(p)) {
                    n++;
                }
            }
            return n;
        }

        /** Whether it is KNOWN, of a phase, and a member of none. */
        boolean isFree(int p, int ofPhase) {
            return lives.isKnown(p) && phase[p] == ofPhase && event[p] == NONE;
        }

        long mixedInto(long start) {
            long h = start;
            for (int p = 0; p < lives.count; p++) {
                if (lives.isKnown(p)) {
                    h = (h ^ station[p]) * 1099511628211L;
                    h = (h ^ sample[p]) * 1099511628211L;
                    h = (h ^ phase[p]) * 1099511628211L;
                    h = (h ^ quality[p]) * 1099511628211L;
                    h = (h ^ Numbers.bitsOf(height[p])) * 1099511628211L;
                }
            }
            return h;
        }
    }

    /** LAYERS, THE TABLE, and the times by them. */
    static final class Layers {
        private static final int ACROSS = 41;
        private static final int DOWN = 9;

        private final double[] thick = new double[LAYERS_AT_MOST];
        private final double[] lower = new double[LAYERS_AT_MOST];
        private final double[] speed = new double[LAYERS_AT_MOST];
        private final double[] crossed = new double[LAYERS_AT_MOST];
        private final double[] times = new double[ACROSS * DOWN];
        private int count = 0;
        // both 0 without a table
        private int step = 0;
        private int other = 0;

        int lay(int newThick, int newSpeed) {
            if (count >= LAYERS_AT_MOST) {
                return NONE;
            }
            thick[count] = newThick;
            lower[count] = upper(count) + newThick;
            speed[count] = Math.max(1, newSpeed) / 16.0;
            count++;
            step = 0;
            other = 0;
            return count - 1;
        }

        private double upper(int i) {
            return i > 0 ? lower[i - 1] : 0.0;
        }

        private int layerOf(double z) {
            for (int i = 0; i < count; i++) {
                if (lower[i] > z) {
                    return i;
                }
            }
            return count - 1;
        }

        /** TIME. */
        double least(double d, double z) {
            double t = direct(d, z);
            for (int k = 1; k < count; k++) {
                double along = along(k, d, z);
                if (along >= 0.0 && along < t) {
                    t = along;
                }
            }
            return t;
        }

        double direct(double d, double z) {
            if (count == 0) {
                return 0.0;
            }
            int q = layerOf(z);
            if (q == 0) {
                return Numbers.root(d * d + z * z) / speed[0];
            }
            double b = 1.0 / greatestSpeedCrossed(q, z);
            double a = 0.0;
            for (int i = 0; i < 60; i++) {
                double m = (a + b) * 0.5;
                if (distanceBy(m, q) < d) {
                    a = m;
                } else {
                    b = m;
                }
            }
            double t = a * d;
            for (int i = 0; i <= q; i++) {
                if (crossed[i] > 0.0) {
                    double v = speed[i];
                    t = t + crossed[i] * Numbers.root(1.0 / (v * v) - a * a);
                }
            }
            return t;
        }

        // Notes how much of each layer 0 .. q a ray from z crosses, too.
        private double greatestSpeedCrossed(int q, double z) {
            double greatest = speed[0];
            for (int i = 0; i <= q; i++) {
                crossed[i] = i < q ? thick[i] : z - upper(q);
                if (crossed[i] > 0.0 && speed[i] > greatest) {
                    greatest = speed[i];
                }
            }
            return greatest;
        }

        private double distanceBy(double m, int q) {
            double sum = 0.0;
            for (int i = 0; i <= q; i++) {
                if (crossed[i] > 0.0) {
                    double sine = m * speed[i];
                    double cosine = Numbers.root(1.0 - sine * sine);
                    if (!(cosine > 0.0)) {
                        // the ray lies flat and comes beyond every distance
                        return 1.0E300;
                    }
                    sum = sum + (crossed[i] * sine) / cosine;
                }
            }
            return sum;
        }

        /** The time along BORDER k; below 0.0 if it is not there. */
        double along(int k, double d, double z) {
            int q = layerOf(z);
            if (k <= q || k >= count) {
                return -1.0;
            }
            double fast = speed[k];
            double first = 0.0;
            double t = d / fast;
            for (int i = 0; i < k; i++) {
                double v = speed[i];
                if (v >= fast) {
                    return -1.0;
                }
                double way = wayThrough(i, q, z);
                double r = v / fast;
                first = first + (way * r) / Numbers.root(1.0 - r * r);
                t = t + way * Numbers.root(1.0 / (v * v) - 1.0 / (fast * fast));
            }
            return d < first ? -1.0 : t;
        }

        private double wayThrough(int i, int q, double z) {
            if (i < q) {
                return thick[i];
            }
            return i == q ? thick[i] + (lower[i] - z) : 2.0 * thick[i];
        }

        void tabulate(int newStep, int newOther) {
            step = Math.max(1, newStep);
            other = Math.max(1, newOther);
            for (int j = 0; j < DOWN; j++) {
                for (int i = 0; i < ACROSS; i++) {
                    times[j * ACROSS + i] = least((double) i * step, (double) j * other);
                }
            }
        }

        boolean hasTable() {
            return step > 0 && other > 0;
        }

        boolean covers(double d, double z) {
            return hasTable() && !(d > 40.0 * step) && !(z > 8.0 * other);
        }

        /** TABLED where the table covers it. */
        double between(double d, double z) {
            if (!covers(d, z)) {
                return 0.0;
            }
            int i = Math.max(0, Math.min(39, (int) (d / step)));
            int j = Math.max(0, Math.min(7, (int) (z / other)));
            double f = d / step - i;
            double g = z / other - j;
            int at = j * ACROSS + i;
            double above = times[at] * (1.0 - f) + times[at + 1] * f;
            double below = times[at + ACROSS] * (1.0 - f) + times[at + ACROSS + 1] * f;
            return above * (1.0 - g) + below * g;
        }

        double greatestDoubt() {
            double greatest = 0.0;
            for (int j = 0; j < DOWN - 1; j++) {
                for (int i = 0; i < ACROSS - 1; i++) {
                    double d = (i + 0.5) * step;
                    double z = (j + 0.5) * other;
                    double off = Numbers.abs(between(d, z) - least(d, z));
                    greatest = off > greatest ? off : greatest;
                }
            }
            return greatest;
        }

        /** THE ARRIVAL of a phase from x, y, z. */
        double arrival(Station at, int phase, double x, double y, double z) {
            if (at == null) {
                return 0.0;
            }
            double dx = x - at.x;
            double dy = y - at.y;
            double d = Numbers.root(dx * dx + dy * dy);
            double t = covers(d, z) ? between(d, z) : least(d, z);
            return phase == 1 ? t * 1.75 : t;
        }
    }

    /** All EVENTS ever, and their members. */
    static final class Events {
        private final Picks picks;
        private final Lives lives = new Lives(EVENTS_AT_MOST);
        private final double[] x = new double[EVENTS_AT_MOST];
        private final double[] y = new double[EVENTS_AT_MOST];
        private final double[] z = new double[EVENTS_AT_MOST];
        private final double[] origin = new double[EVENTS_AT_MOST];
        private final int[] least = new int[EVENTS_AT_MOST];
        private final int[] end = new int[EVENTS_AT_MOST];
        private final int[] steps = new int[EVENTS_AT_MOST];
        private final int[] alert = new int[EVENTS_AT_MOST];
        private final int[] leader = new int[EVENTS_AT_MOST];
        private final int[] queue = new int[EVENTS_AT_MOST];
        private final int[] members = new int[EVENTS_AT_MOST * MEMBERS_AT_MOST];
        private final int[] memberCount = new int[EVENTS_AT_MOST];

        Events(Picks picks) {
            this.picks = picks;
        }

        /** A new EVENT without place and members, or NONE without room. */
        int come(int leastMembers, int clock) {
            int e = lives.come(clock);
            if (e != NONE) {
                least[e] = leastMembers;
                end[e] = NONE;
                steps[e] = NONE;
                alert[e] = NONE;
                leader[e] = NONE;
            }
            return e;
        }

        boolean hasMember(int e, int k) {
            return lives.isThere(e) && k >= 0 && k < memberCount[e];
        }

        int memberAt(int e, int k) {
            return members[e * MEMBERS_AT_MOST + k];
        }

        void join(int e, int p) {
            if (memberCount[e] < MEMBERS_AT_MOST) {
                members[e * MEMBERS_AT_MOST + memberCount[e]] = p;
                memberCount[e]++;
                picks.event[p] = e;
            }
        }

        int firstPhases(int e) {
            int n = 0;
            for (int k = 0; k < memberCount[e]; k++) {
                if (picks.phase[memberAt(e, k)] == 0) {
                    n++;
                }
            }
            return n;
        }

        /** What follows for the event of a pick that has been TAKEN BACK. */
        void release(int p, int clock) {
            int e = picks.event[p];
            if (!lives.isThere(e)) {
                return;
            }
            leave(e, p);
            if (firstPhases(e) < least[e]) {
                lives.takeBack(e, clock);
                for (int k = 0; k < memberCount[e]; k++) {
                    picks.event[memberAt(e, k)] = NONE;
                }
                memberCount[e] = 0;
            }
        }

        private void leave(int e, int p) {
            int still = 0;
            for (int k = 0; k < memberCount[e]; k++) {
                int other = memberAt(e, k);
                if (other != p) {
                    members[e * MEMBERS_AT_MOST + still] = other;
                    still++;
                }
            }
            memberCount[e] = still;
            picks.event[p] = NONE;
        }

        /** Groups the KNOWN events, each led by its least one; how many groups. */
        int group(int bound) {
            for (int e = 0; e < lives.count; e++) {
                leader[e] = NONE;
            }
            int groups = 0;
            for (int e = 0; e < lives.count; e++) {
                if (lives.isKnown(e) && leader[e] == NONE) {
                    gatherAround(e, bound);
                    groups++;
                }
            }
            return groups;
        }

        private void gatherAround(int first, int bound) {
            leader[first] = first;
            queue[0] = first;
            int queued = 1;
            for (int at = 0; at < queued && at < queue.length; at++) {
                int near = queue[at];
                for (int e = 0; e < lives.count; e++) {
                    boolean free = lives.isKnown(e) && leader[e] == NONE;
                    if (free && queued < queue.length && apart(near, e) <= bound) {
                        leader[e] = first;
                        queue[queued] = e;
                        queued++;
                    }
                }
            }
        }

        private double apart(int e, int f) {
            double across = Numbers.abs(x[e] - x[f]) + Numbers.abs(y[e] - y[f]);
            return across + Numbers.abs(origin[e] - origin[f]);
        }

        long mixedInto(long start) {
            long h = start;
            for (int e = 0; e < lives.count; e++) {
                if (lives.isKnown(e)) {
                    h = (h ^ Numbers.bitsOf(x[e])) * 1099511628211L;
                    h = (h ^ Numbers.bitsOf(y[e])) * 1099511628211L;
                    h = (h ^ Numbers.bitsOf(z[e])) * 1099511628211L;
                    h = (h ^ Numbers.bitsOf(origin[e])) * 1099511628211L;
                    for (int k = 0; k < memberCount[e]; k++) {
                        h = (h ^ memberAt(e, k)) * 1099511628211L;
                    }
                }
            }
            return h;
        }
    }

    /** VOTES over the grid. */
    static final class Voter {
        private final Picks picks;
        private final Events events;
        private final Layers layers;
        private final Station[] stations;
        private final int[] candidates = new int[CANDIDATES_AT_MOST];
        private final double[] origins = new double[CANDIDATES_AT_MOST];
        private final double[] arrivals = new double[STATIONS_AT_MOST];
        private int candidateCount = 0;
        private int bestVotes = 0;
        private double bestX = 0.0;
        private double bestY = 0.0;
        private double bestOrigin = 0.0;

        Voter(Picks picks, Events events, Layers layers, Station[] stations) {
            this.picks = picks;
            this.events = events;
            this.layers = layers;
            this.stations = stations;
        }

        /** Gathers the CANDIDATES; how many there are, also beyond those it has room for. */
        int gather() {
            candidateCount = 0;
            int all = 0;
            for (int p = 0; p < picks.lives.count; p++) {
                if (picks.isFree(p, 0)) {
                    if (candidateCount < candidates.length) {
                        candidates[candidateCount] = p;
                        candidateCount++;
                    }
                    all++;
                }
            }
            return all;
        }

        /** Looks through the grid for the node and the candidate with the most VOTES. */
        void poll(int step, double z, double tolerance) {
            int stride = Math.max(1, step);
            bestVotes = 0;
            int asked = candidateStations();
            for (int x = 0 - GRID_EDGE; x <= GRID_EDGE; x += stride) {
                for (int y = 0 - GRID_EDGE; y <= GRID_EDGE; y += stride) {
                    arriveFrom(x, y, z, asked);
                    pollNode(x, y, tolerance);
                }
            }
        }

        private int candidateStations() {
            int asked = 0;
            for (int i = 0; i < candidateCount; i++) {
                asked |= 1 << picks.station[candidates[i]];
            }
            return asked;
        }

        // Only for the stations whose bit is set: an arrival is dear.
        private void arriveFrom(double x, double y, double z, int asked) {
            for (int s = 0; s < arrivals.length && s < stations.length; s++) {
                if ((asked & (1 << s)) != 0) {
                    arrivals[s] = layers.arrival(stations[s], 0, x, y, z);
                }
            }
        }

        private void pollNode(double x, double y, double tolerance) {
            for (int i = 0; i < candidateCount; i++) {
                int p = candidates[i];
                origins[i] = picks.sample[p] - arrivals[picks.station[p]];
            }
            for (int i = 0; i < candidateCount; i++) {
                int votes = votesFor(origins[i], tolerance);
                if (votes > bestVotes) {
                    bestVotes = votes;
                    bestX = x;
                    bestY = y;
                    bestOrigin = origins[i];
                }
            }
        }

        private int votesFor(double origin, double tolerance) {
            int voting = 0;
            for (int i = 0; i < candidateCount; i++) {
                if (Numbers.abs(origins[i] - origin) <= tolerance) {
                    voting |= 1 << picks.station[candidates[i]];
                }
            }
            return Integer.bitCount(voting);
        }

        /** Makes the event of what the latest poll found best. */
        int elect(double z, double tolerance, int least, int clock) {
            int e = events.come(least, clock);
            if (e == NONE) {
                return NONE;
            }
            events.x[e] = bestX;
            events.y[e] = bestY;
            events.z[e] = z;
            events.origin[e] = bestOrigin;
            arriveFrom(bestX, bestY, z, -1);
            for (int s = 0; s < arrivals.length; s++) {
                joinNearest(e, s, 0, tolerance);
                joinNearest(e, s, 1, 2.0 * tolerance);
            }
            return e;
        }

        private void joinNearest(int e, int s, int phase, double tolerance) {
            double arrival = phase == 1 ? arrivals[s] * 1.75 : arrivals[s];
            int nearest = NONE;
            double nearestOff = 0.0;
            for (int p = 0; p < picks.lives.count; p++) {
                if (picks.station[p] == s && picks.isFree(p, phase)) {
                    double off = Numbers.abs((picks.sample[p] - arrival) - bestOrigin);
                    if (off <= tolerance && (nearest == NONE || off < nearestOff)) {
                        nearest = p;
                        nearestOff = off;
                    }
                }
            }
            if (nearest != NONE) {
                events.join(e, nearest);
            }
        }
    }

    /** Places events by steps and by a whole search, and tells their doubts and sizes. */
    static final class Locator {
        private final Picks picks;
        private final Events events;
        private final Layers layers;
        private final Station[] stations;

        Locator(Picks picks, Events events, Layers layers, Station[] stations) {
            this.picks = picks;
            this.events = events;
            this.layers = layers;
            this.stations = stations;
        }

        /** RESIDUAL of a member. */
        double rest(int e, int p) {
            Station at = stations[picks.station[p]];
            double arrival = layers.arrival(at, picks.phase[p], events.x[e], events.y[e], events.z[e]);
            return (picks.sample[p] - events.origin[e]) - arrival;
        }

        /** COST of an event if it were at x, y and began at o. */
        double cost(int e, double x, double y, double o) {
            double sum = 0.0;
            for (int k = 0; k < events.memberCount[e]; k++) {
                int p = events.memberAt(e, k);
                Station at = stations[picks.station[p]];
                double rest = (picks.sample[p] - o) - layers.arrival(at, picks.phase[p], x, y, events.z[e]);
                sum = sum + picks.quality[p] * (rest * rest);
            }
            return sum;
        }

        /** One step of PLACED: 0 it was done, 1 SETTLED, 2 SINGULAR. */
        int step(int e, double[] row) {
            fillNormal(e, row);
            if (!Numbers.solve(row)) {
                return 2;
            }
            double x = events.x[e];
            double y = events.y[e];
            double o = events.origin[e];
            double before = cost(e, x, y, o);
            double f = 1.0;
            for (int i = 0; i < 8; i++) {
                double toX = x + f * row[12];
                double toY = y + f * row[13];
                double toO = o + f * row[14];
                if (cost(e, toX, toY, toO) < before) {
                    events.x[e] = toX;
                    events.y[e] = toY;
                    events.origin[e] = toO;
                    return 0;
                }
                f = f * 0.5;
            }
            return 1;
        }

        // N to 0 .. 8 and B to 9 .. 11 of the work row, as Numbers.solve takes them.
        private void fillNormal(int e, double[] row) {
            double x = events.x[e];
            double y = events.y[e];
            double z = events.z[e];
            for (int i = 0; i < 12; i++) {
                row[i] = 0.0;
            }
            for (int k = 0; k < events.memberCount[e]; k++) {
                int p = events.memberAt(e, k);
                Station at = stations[picks.station[p]];
                int phase = picks.phase[p];
                double g0 = (layers.arrival(at, phase, x + 1.0, y, z) - layers.arrival(at, phase, x - 1.0, y, z)) * 0.5;
                double g1 = (layers.arrival(at, phase, x, y + 1.0, z) - layers.arrival(at, phase, x, y - 1.0, z)) * 0.5;
                double rest = (picks.sample[p] - events.origin[e]) - layers.arrival(at, phase, x, y, z);
                addRow(row, 0, g0, picks.quality[p], g0, g1, rest);
                addRow(row, 1, g1, picks.quality[p], g0, g1, rest);
                addRow(row, 2, 1.0, picks.quality[p], g0, g1, rest);
            }
        }

        private static void addRow(double[] row, int j, double gj, double quality, double g0, double g1, double rest) {
            row[3 * j] = row[3 * j] + quality * (gj * g0);
            row[3 * j + 1] = row[3 * j + 1] + quality * (gj * g1);
            row[3 * j + 2] = row[3 * j + 2] + quality * (gj * 1.0);
            row[9 + j] = row[9 + j] + quality * (gj * rest);
        }

        /** Solves N for the error at k; false if it is SINGULAR. */
        boolean solveUnit(int e, int k, double[] row) {
            fillNormal(e, row);
            for (int j = 0; j < 3; j++) {
                row[9 + j] = j == k ? 1.0 : 0.0;
            }
            return Numbers.solve(row);
        }

        /** The error at k by what solveUnit left in the row. */
        double width(int e, int k, double[] row) {
            int over = events.memberCount[e] - 3;
            if (over < 1) {
                return 0.0;
            }
            double cost = cost(e, events.x[e], events.y[e], events.origin[e]);
            return Numbers.root(row[12 + k] * (cost / over));
        }

        /** SEARCHED. */
        void searchWhole(int e, int step, int depthStep, double[] row) {
            int stride = Math.max(1, step);
            boolean any = false;
            double least = 0.0;
            for (int x = 0 - GRID_EDGE; x <= GRID_EDGE; x += stride) {
                for (int y = 0 - GRID_EDGE; y <= GRID_EDGE; y += stride) {
                    for (int j = 0; j <= 8; j++) {
                        double z = (double) j * depthStep;
                        arriveFrom(e, x, y, z, row);
                        double o = originBy(e, row);
                        double cost = costBy(e, o, row);
                        if (!any || cost < least) {
                            any = true;
                            least = cost;
                            events.x[e] = x;
                            events.y[e] = y;
                            events.z[e] = z;
                            events.origin[e] = o;
                        }
                    }
                }
            }
        }

        // The arrivals of all members, each at its own place of the row.
        private void arriveFrom(int e, double x, double y, double z, double[] row) {
            int lastStation = NONE;
            for (int k = 0; k < events.memberCount[e]; k++) {
                int p = events.memberAt(e, k);
                int s = picks.station[p];
                // two members of one station are its phases 0 and 1: the dear part is the same
                boolean second = k > 0 && s == lastStation;
                row[k] = second ? row[k - 1] * 1.75 : layers.arrival(stations[s], picks.phase[p], x, y, z);
                lastStation = s;
            }
        }

        private double originBy(int e, double[] row) {
            double sum = 0.0;
            double weight = 0.0;
            for (int k = 0; k < events.memberCount[e]; k++) {
                int p = events.memberAt(e, k);
                sum = sum + picks.quality[p] * (picks.sample[p] - row[k]);
                weight = weight + picks.quality[p];
            }
            return weight > 0.0 ? sum / weight : 0.0;
        }

        private double costBy(int e, double o, double[] row) {
            double sum = 0.0;
            for (int k = 0; k < events.memberCount[e]; k++) {
                int p = events.memberAt(e, k);
                double rest = (picks.sample[p] - o) - row[k];
                sum = sum + picks.quality[p] * (rest * rest);
            }
            return sum;
        }

        /** The sizes by each member that tells one come to the row; how many. */
        int gatherSizes(int e, double[] row) {
            int n = 0;
            for (int k = 0; k < events.memberCount[e]; k++) {
                int p = events.memberAt(e, k);
                Station at = stations[picks.station[p]];
                if (at != null && picks.phase[p] == 0 && picks.height[p] > 0.0 && n < row.length) {
                    double dx = events.x[e] - at.x;
                    double dy = events.y[e] - at.y;
                    double d = Numbers.root(dx * dx + dy * dy);
                    row[n] = (Numbers.log(picks.height[p]) + 1.5 * Numbers.log(1.0 + d)) + at.term / 16.0;
                    n++;
                }
            }
            return n;
        }
    }
}
