import java.lang.reflect.Array;
import java.util.ArrayList;
import java.util.Arrays;
import java.util.Collections;
import java.util.List;
import java.util.TreeMap;
import java.util.TreeSet;

/**
 * The document written down a second time, with the Java library and without any of the program's
 * limits: rows are real rows of four kinds, failures are what the machine throws, amplitudes,
 * members' numbers and sizes are worked out anew whenever they are asked for.
 */
public final class ReferenceNet {
    static final int UNKNOWN = -101, OUTSIDE = -102, STATE = -103, ROOM = -104, NONE = -109;

    static final class Refusal extends RuntimeException {
        private static final long serialVersionUID = 1L;
        final int code;
        Refusal(int code) { super(null, null, false, false); this.code = code; }
    }

    static final class Seen { int t; double y; Seen(int t, double y) { this.t = t; this.y = y; } }

    static final class Ratio {
        double s, l;
        double rate() { return l > 0.0 ? s / l : 0.0; }
    }

    static final class Site {
        int x, y, kind, zero = 0, up = 1, down = 1, term = 0, place = 0, unfit = 0, latestRead = 0;
        Object[] blocks = new Object[32];
        int filter = 0, a = 8, picker = 0, shortOne = 4, longOne = 16, bound = 48;
        double g, h, k, m;
        Ratio ratio = new Ratio(), inChange = new Ratio();
        List<Seen> seen = new ArrayList<>();
        boolean armed = true;
        List<Pick> since = new ArrayList<>();
        void anew() {
            g = h = k = m = 0.0;
            ratio = new Ratio();
            inChange = new Ratio();
            seen = new ArrayList<>();
            since = new ArrayList<>();
            armed = true;
        }
    }

    static class Life { int from, until = NONE; boolean known() { return until == NONE; }
        boolean at(int c) { return from <= c && (until == NONE || until > c); } }
    static final class Pick extends Life { int number, station, sample, phase; double quality; List<Seen> seen; Event event; }
    static final class Event extends Life {
        int number, least, ended = NONE, steps = NONE, swarm = NONE;
        double x, y, z, o;
        List<Pick> members = new ArrayList<>();
        long firsts() { return members.stream().filter(p -> p.phase == 0).count(); }
    }
    static final class Alert extends Life { Event event; }

    int laneKind = 0;
    List<Number> laneRow = new ArrayList<>();
    final List<Site> sites = new ArrayList<>();
    final List<Pick> picks = new ArrayList<>();
    final List<Event> events = new ArrayList<>();
    final List<Alert> alerts = new ArrayList<>();
    final List<int[]> layers = new ArrayList<>();
    double[][] table = null;
    int tableStep, tableOther;
    final int[] waves = new int[8];
    final int[] traces = new int[4];
    final int[] failures = new int[7];
    int clock = 0, ruleStations = 4, ruleSize = 0, taken = 0, latest = 0;

    // ---- the frame of a call

    interface Body { long go(); }

    private long call(Body body) {
        try {
            long v = body.go();
            latest = 0;
            return v;
        } catch (Refusal r) {
            latest = r.code;
            return r.code;
        }
    }
    private int callInt(Body body) { return (int) call(body); }
    private long callLong(Body body) {
        long v = call(body);
        return latest == 0 ? v : 0L;
    }
    private static void need(boolean ok, int code) { if (!ok) throw new Refusal(code); }
    private static void in(int v, int low, int high) { need(v >= low && v <= high, OUTSIDE); }
    private static <T> T of(List<T> list, int i) { need(i >= 0 && i < list.size(), UNKNOWN); return list.get(i); }
    private static long bits(double v) { return Double.doubleToLongBits(v); }

    // ---- the lane

    private Number turned(long v) {
        switch (laneKind) {
            case 0: return (short) v;
            case 1: return (int) v;
            case 2: return v == Long.MIN_VALUE ? Float.NaN : ((float) v) / 16.0f;
            default: return v == Long.MIN_VALUE ? Double.NaN : ((double) v) / 16.0;
        }
    }
    public int lane(int kind) {
        return callInt(() -> {
            in(kind, 0, 3);
            int had = laneRow.size();
            laneRow = new ArrayList<>();
            laneKind = kind;
            return had;
        });
    }
    public int raw(long v) {
        return callInt(() -> { need(laneRow.size() < 32, ROOM); laneRow.add(turned(v)); return laneRow.size(); });
    }
    public int noise(int n, int size, long seed) {
        return callInt(() -> {
            in(n, 1, 32); in(size, 0, 30000);
            need(laneRow.size() + n <= 32, ROOM);
            long s = seed;
            for (int i = 0; i < n; i++) {
                s = s * 6364136223846793005L + 1442695040888963407L;
                laneRow.add(turned((s >>> 33) % (2 * size + 1) - size));
            }
            return laneRow.size();
        });
    }
    public int swing(int n, int size, int less) {
        return callInt(() -> {
            in(n, 1, 32); in(size, 0, 30000); in(less, 0, 30000);
            need(laneRow.size() + n <= 32, ROOM);
            for (int i = 0; i < n; i++) {
                long v = Math.max(0, size - i * less);
                laneRow.add(turned(i % 2 == 0 ? v : -v));
            }
            return laneRow.size();
        });
    }

    // ---- stations

    public int station(int x, int y, int kind) {
        return callInt(() -> {
            in(x, -1000, 1000); in(y, -1000, 1000); in(kind, 0, 3);
            need(sites.size() < 16, ROOM);
            Site s = new Site();
            s.x = x; s.y = y; s.kind = kind;
            sites.add(s);
            return sites.size() - 1;
        });
    }
    public int calibrate(int station, int zero, int up, int down) {
        return callInt(() -> {
            Site s = of(sites, station);
            in(zero, -1000, 1000); in(up, -1000, 1000); in(down, -1000, 1000);
            s.zero = zero; s.up = up; s.down = down;
            s.anew();
            return 1;
        });
    }
    public int filter(int station, int sort, int a) {
        return callInt(() -> {
            Site s = of(sites, station);
            in(sort, 0, 3); in(a, 0, 16);
            int was = s.filter;
            s.filter = sort; s.a = a;
            s.anew();
            return was;
        });
    }
    public int picker(int station, int sort, int shortOne, int longOne, int bound) {
        return callInt(() -> {
            Site s = of(sites, station);
            in(sort, 0, 3); in(shortOne, 1, 16); in(longOne, 2, 64); in(bound, 1, 255);
            int was = s.picker;
            s.picker = sort; s.shortOne = shortOne; s.longOne = longOne; s.bound = bound;
            s.anew();
            return was;
        });
    }
    public int wave(int i, int v) {
        return callInt(() -> { in(i, 0, 7); in(v, -100, 100); int was = waves[i]; waves[i] = v; return was; });
    }
    public int term(int station, int v) {
        return callInt(() -> { Site s = of(sites, station); in(v, -1000, 1000); int was = s.term; s.term = v; return was; });
    }

    private static Object newRow(int kind, int n) {
        switch (kind) {
            case 0: return new short[n];
            case 1: return new int[n];
            case 2: return new float[n];
            default: return new double[n];
        }
    }
    public int packet(int station, int block, int kind, int n) {
        return callInt(() -> {
            Site s = of(sites, station);
            need(block >= 0 && block < 32, UNKNOWN);
            in(kind, 0, 3); need(n <= 32, OUTSIDE);
            Object row;
            try {
                row = newRow(kind, n);
                Object from = newRow(laneKind, laneRow.size());
                for (int i = 0; i < laneRow.size(); i++) Array.set(from, i, laneRow.get(i));
                System.arraycopy(from, 0, row, 0, laneRow.size());
            } catch (NegativeArraySizeException e) {
                throw fail(4);
            } catch (ArrayStoreException e) {
                throw fail(5);
            } catch (IndexOutOfBoundsException e) {
                throw fail(6);
            }
            Object old = s.blocks[block];
            if (old != null) {
                need(old.getClass() == row.getClass(), STATE);
                need(Array.getLength(old) < n, STATE);
                for (int i = 0; i < Array.getLength(old); i++) need(Array.get(old, i).equals(Array.get(row, i)), STATE);
            }
            s.blocks[block] = row;
            laneRow = new ArrayList<>();
            return n;
        });
    }
    private Refusal fail(int failure) { failures[failure]++; return new Refusal(-10 - failure); }

    static final class Failure extends Exception {
        private static final long serialVersionUID = 1L;
        final int number;
        Failure(int number) { this.number = number; }
    }
    private static double groundOf(Site s, int t) throws Failure {
        Object row = s.blocks[t / 32];
        int i = t % 32;
        try {
            if (row == null) throw new Failure(1);
            switch (s.kind) {
                case 0: return ((((short[]) row)[i] - (double) s.zero) * s.up) / s.down;
                case 1: return ((((int[]) row)[i] - (double) s.zero) * s.up) / s.down;
                case 2: return ((((float[]) row)[i] - (float) s.zero) * (float) s.up) / (float) s.down;
                default: return ((((double[]) row)[i] - s.zero) * s.up) / s.down;
            }
        } catch (ClassCastException e) {
            throw new Failure(2);
        } catch (ArrayIndexOutOfBoundsException e) {
            throw new Failure(3);
        }
    }
    private static boolean fit(double v) { return !Double.isNaN(v) && !Double.isInfinite(v); }

    public long ground(int station, int t) {
        return callLong(() -> {
            Site s = of(sites, station);
            in(t, 0, 1023);
            try { return bits(groundOf(s, t)); } catch (Failure f) { throw fail(f.number); }
        });
    }
    public long spectrum(int station, int block, int k) {
        return callLong(() -> {
            Site s = of(sites, station);
            need(block >= 0 && block < 32, UNKNOWN);
            in(k, 0, 16);
            taken++;
            double[] cs = new double[32], ds = new double[32];
            cs[0] = 1.0;
            for (int i = 0; i + 1 < 32; i++) {
                cs[i + 1] = cs[i] * 0.9807852804032304 - ds[i] * 0.19509032201612825;
                ds[i + 1] = ds[i] * 0.9807852804032304 + cs[i] * 0.19509032201612825;
            }
            double a = 0.0, b = 0.0;
            for (int i = 0; i < 32; i++) {
                double v;
                try { v = groundOf(s, block * 32 + i); } catch (Failure f) { throw fail(f.number); }
                if (!fit(v)) v = 0.0;
                a += v * cs[i * k % 32];
                b += v * ds[i * k % 32];
            }
            return bits((a * a + b * b) / 32.0);
        });
    }

    // ---- reading on

    private double matchRate(Site s) {
        int n = s.seen.size();
        if (n < 8) return 0.0;
        double c = 0.0, p = 0.0, q = 0.0;
        for (int i = 0; i < 8; i++) {
            double y = s.seen.get(n - 8 + i).y, w = waves[i];
            c += w * y; p += y * y; q += w * w;
        }
        return p * q > 0.0 ? (16.0 * c) / Math.sqrt(p * q) : 0.0;
    }
    private double rate(Site s) {
        double r0 = s.ratio.rate(), r1 = Math.sqrt(s.inChange.rate()), r2 = matchRate(s);
        switch (s.picker) {
            case 0: return r0;
            case 1: return r1;
            case 2: return r2;
            default: return Math.max(Math.min(r0, r1), Math.min(Math.max(r0, r1), r2));
        }
    }
    private void body(Site s, Ratio r, double u) {
        traces[0]++;
        r.s = r.s + (u - r.s) / s.shortOne;
        r.l = r.l + (u - r.l) / s.longOne;
    }
    private void step(Site s, int station) throws Failure {
        double x = groundOf(s, s.place);
        int t = s.place++;
        if (!fit(x)) { s.unfit++; return; }
        double factor = s.a / 16.0, y;
        switch (s.filter) {
            case 0: y = x; break;
            case 1: s.h = factor * ((s.h + x) - s.g); s.g = x; y = s.h; break;
            case 2: s.k = s.k + factor * (x - s.k); y = s.k; break;
            default:
                s.h = factor * ((s.h + x) - s.g); s.g = x;
                s.k = s.k + factor * (s.h - s.k); y = s.k;
        }
        s.seen.add(new Seen(t, y));
        if (s.picker == 0 || s.picker == 3) body(s, s.ratio, Math.abs(y));
        if (s.picker == 1 || s.picker == 3) {
            traces[1]++;
            double e = y - s.m;
            s.m = s.m + e / s.longOne;
            body(s, s.inChange, e * e);
        }
        if (s.picker >= 2) traces[2]++;
        if (s.picker == 3) traces[3]++;
        double rate = rate(s), bound = s.bound / 16.0;
        if (s.seen.size() > s.longOne && rate > bound && s.armed) {
            s.armed = false;
            Pick p = new Pick();
            p.number = picks.size(); p.station = station; p.sample = t; p.from = clock; p.seen = s.seen;
            p.quality = Math.min(9.0, Math.floor(rate / bound));
            for (Pick o : s.since) if (o.phase == 0) p.phase = t - o.sample <= 200 ? 1 : 0;
            s.since.add(p);
            picks.add(p);
        } else if (!s.armed && rate < 1.0) {
            s.armed = true;
        }
    }
    private static double amplitudeOf(Pick p) {
        double greatest = 0.0;
        for (Seen v : p.seen) if (v.t >= p.sample && v.t <= p.sample + 15) greatest = Math.max(greatest, Math.abs(v.y));
        return greatest;
    }
    public int read(int station, int n) {
        return callInt(() -> {
            Site s = of(sites, station);
            in(n, 1, 128);
            need(picks.size() <= 336, ROOM);
            s.latestRead = 0;
            for (int i = 0; i < n; i++) {
                if (s.place == 1024) { s.latestRead = 4; break; }
                try { step(s, station); } catch (Failure f) { failures[f.number]++; s.latestRead = f.number; break; }
            }
            return s.latestRead;
        });
    }
    public int skip(int station) {
        return callInt(() -> {
            Site s = of(sites, station);
            need(s.place != 1024, STATE);
            do { s.place++; } while (s.place % 32 != 0);
            s.anew();
            return s.place;
        });
    }
    private void takeBack(Pick p) {
        p.until = clock;
        Event e = p.event;
        if (e == null) return;
        p.event = null;
        e.members.remove(p);
        if (e.firsts() < e.least) {
            e.until = clock;
            for (Pick o : e.members) o.event = null;
            e.members.clear();
        }
    }
    public int rework(int station) {
        return callInt(() -> {
            Site s = of(sites, station);
            s.place = 0;
            s.anew();
            int n = 0;
            for (Pick p : picks) if (p.station == station && p.known()) { takeBack(p); n++; }
            return n;
        });
    }
    public int status(int station, int what) {
        return callInt(() -> {
            Site s = of(sites, station);
            in(what, 0, 9);
            long[] all = {s.place, s.seen.size(), s.unfit, s.latestRead, s.armed ? 1 : 0, s.x, s.y, s.kind,
                Arrays.stream(s.blocks).filter(b -> b != null).count(),
                picks.stream().filter(p -> p.station == station && p.known()).count()};
            return all[what];
        });
    }
    public long now(int station, int what) {
        return callLong(() -> {
            Site s = of(sites, station);
            in(what, 0, 1);
            if (what == 1) return bits(rate(s));
            return bits(s.seen.isEmpty() ? 0.0 : s.seen.get(s.seen.size() - 1).y);
        });
    }
    public int trace(int sort) { return callInt(() -> { in(sort, 0, 3); return traces[sort]; }); }

    // ---- picks, the clock

    public int pick(int pick, int what) {
        return callInt(() -> {
            Pick p = of(picks, pick);
            in(what, 0, 6);
            return new int[] {p.station, p.sample, p.phase, (int) p.quality, p.event == null ? NONE : p.event.number, p.from, p.until}[what];
        });
    }
    public long amplitude(int pick) { return callLong(() -> bits(amplitudeOf(of(picks, pick)))); }

    private Alert knownAlert(Event e) {
        for (Alert a : alerts) if (a.event == e && a.known()) return a;
        return null;
    }
    private boolean holds(Event e) {
        if (!e.known() || e.firsts() < ruleStations) return false;
        Double v = sizeOf(e);
        return v != null && v >= ruleSize / 16.0;
    }
    public int tick() {
        return callInt(() -> {
            need(alerts.size() <= 140 && clock != 100000, ROOM);
            clock++;
            for (Event e : events) {
                boolean holds = holds(e);
                Alert a = knownAlert(e);
                if (holds && a == null) {
                    a = new Alert();
                    a.event = e; a.from = clock;
                    alerts.add(a);
                } else if (!holds && a != null) {
                    a.until = clock;
                }
            }
            return clock;
        });
    }
    public int rule(int stations, int size) {
        return callInt(() -> { in(stations, 2, 16); in(size, -1000, 1000); ruleStations = stations; ruleSize = size; return 1; });
    }
    public int alert(int alert, int what) {
        return callInt(() -> {
            Alert a = of(alerts, alert);
            in(what, 0, 2);
            return new int[] {a.event.number, a.from, a.until}[what];
        });
    }

    // ---- times

    private double thick(int i) { return layers.get(i)[0]; }
    private double v(int i) { return layers.get(i)[1] / 16.0; }
    private double top(int i) { double sum = 0.0; for (int j = 0; j < i; j++) sum += thick(j); return sum; }
    private int q(double z) {
        int q = 0;
        while (q < layers.size() - 1 && !(top(q + 1) > z)) q++;
        return q;
    }
    double direct(double d, double z) {
        int q = q(z);
        if (q == 0) return Math.sqrt(d * d + z * z) / v(0);
        List<double[]> hv = new ArrayList<>();
        for (int i = 0; i <= q; i++) {
            double h = i < q ? thick(i) : z - top(q);
            if (h > 0.0) hv.add(new double[] {h, v(i)});
        }
        double fastest = 0.0;
        for (double[] p : hv) fastest = Math.max(fastest, p[1]);
        double a = 0.0, b = 1.0 / fastest;
        for (int i = 0; i < 60; i++) {
            double m = (a + b) * 0.5, x = 0.0;
            for (double[] p : hv) x += (p[0] * (m * p[1])) / Math.sqrt(Math.max(0.0, 1.0 - (m * p[1]) * (m * p[1])));
            if (x < d) a = m; else b = m;
        }
        double t = a * d;
        for (double[] p : hv) t += p[0] * Math.sqrt(Math.max(0.0, 1.0 / (p[1] * p[1]) - a * a));
        return t;
    }
    Double border(int k, double d, double z) {
        int q = q(z);
        if (k <= q || k >= layers.size()) return null;
        double fast = v(k), far = 0.0, t = d / fast;
        for (int i = 0; i < k; i++) {
            if (!(fast > v(i))) return null;
            double g = i < q ? thick(i) : i == q ? thick(i) + (top(i + 1) - z) : 2.0 * thick(i);
            double r = v(i) / fast;
            far += (g * r) / Math.sqrt(1.0 - r * r);
            t += g * Math.sqrt(Math.max(0.0, 1.0 / (v(i) * v(i)) - 1.0 / (fast * fast)));
        }
        return d < far ? null : (Double) t;
    }
    double timeOf(double d, double z) {
        double t = direct(d, z);
        for (int k = 0; k < layers.size(); k++) {
            Double other = border(k, d, z);
            if (other != null) t = Math.min(t, other);
        }
        return t;
    }
    double tabledOf(double d, double z) {
        if (table == null || d > 40.0 * tableStep || z > 8.0 * tableOther) return timeOf(d, z);
        double i = Math.min(39.0, Math.floor(d / tableStep)), f = d / tableStep - i;
        double j = Math.min(7.0, Math.floor(z / tableOther)), g = z / tableOther - j;
        double a = table[(int) j][(int) i], b = table[(int) j][(int) i + 1];
        double c = table[(int) j + 1][(int) i], e = table[(int) j + 1][(int) i + 1];
        return (a * (1.0 - f) + b * f) * (1.0 - g) + (c * (1.0 - f) + e * f) * g;
    }
    double arrival(int station, int phase, double x, double y, double z) {
        double t = tabledOf(distance(station, x, y), z);
        return phase == 1 ? t * 1.75 : t;
    }
    private double distance(int station, double x, double y) {
        double dx = x - sites.get(station).x, dy = y - sites.get(station).y;
        return Math.sqrt(dx * dx + dy * dy);
    }
    public int layer(int thick, int speed) {
        return callInt(() -> {
            in(thick, 1, 200); in(speed, 1, 160);
            need(layers.size() < 6, ROOM);
            layers.add(new int[] {thick, speed});
            table = null;
            return layers.size() - 1;
        });
    }
    public long time(int way, int distance, int depth) {
        return callLong(() -> {
            in(way, 0, 7); in(distance, 0, 4000); in(depth, 0, 600);
            need(!layers.isEmpty(), STATE);
            if (way == 0) return bits(timeOf(distance, depth));
            if (way == 1) return bits(direct(distance, depth));
            Double t = border(way - 2, distance, depth);
            need(t != null, STATE);
            return bits(t);
        });
    }
    public int table(int step, int other) {
        return callInt(() -> {
            in(step, 1, 100); in(other, 1, 75);
            need(!layers.isEmpty(), STATE);
            table = new double[9][41];
            for (int j = 0; j <= 8; j++) for (int i = 0; i <= 40; i++) table[j][i] = timeOf(i * step, j * other);
            tableStep = step; tableOther = other;
            return 369;
        });
    }
    public long tabled(int distance, int depth) {
        return callLong(() -> {
            in(distance, 0, 32000); in(depth, 0, 4800);
            need(!layers.isEmpty(), STATE);
            return bits(tabledOf(distance / 8.0, depth / 8.0));
        });
    }
    public long doubt() {
        return callLong(() -> {
            need(table != null, STATE);
            double most = 0.0;
            for (int i = 0; i < 40; i++) {
                for (int j = 0; j < 8; j++) {
                    double d = (i + 0.5) * tableStep, z = (j + 0.5) * tableOther;
                    most = Math.max(most, Math.abs(tabledOf(d, z) - timeOf(d, z)));
                }
            }
            return bits(most);
        });
    }

    // ---- events

    private List<Pick> free(int phase) {
        List<Pick> list = new ArrayList<>();
        for (Pick p : picks) if (p.known() && p.phase == phase && p.event == null) list.add(p);
        return list;
    }
    private void choose(Event e, List<Pick> from, double tolerance, TreeMap<Integer, Pick> chosen) {
        TreeMap<Integer, Double> off = new TreeMap<>();
        for (Pick p : from) {
            double o = Math.abs((p.sample - arrival(p.station, p.phase, e.x, e.y, e.z)) - e.o);
            int key = p.station * 2 + p.phase;
            if (o <= tolerance && (!off.containsKey(key) || o < off.get(key))) { off.put(key, o); chosen.put(key, p); }
        }
    }
    public int vote(int step, int depth, int tolerance, int least) {
        return callInt(() -> {
            in(step, 200, 1000); in(depth, 0, 600); in(tolerance, 0, 400); in(least, 2, 16);
            need(!layers.isEmpty(), STATE);
            List<Pick> candidates = free(0);
            need(events.size() < 60 && candidates.size() <= 60, ROOM);
            double tol = tolerance / 8.0;
            int most = 0;
            Event e = new Event();
            for (int x = -1000; x <= 1000; x += step) {
                for (int y = -1000; y <= 1000; y += step) {
                    double[] starts = new double[candidates.size()];
                    double[] known = new double[16];
                    Arrays.fill(known, -1.0);
                    for (int i = 0; i < starts.length; i++) {
                        int s = candidates.get(i).station;
                        if (known[s] < 0.0) known[s] = arrival(s, 0, x, y, depth);
                        starts[i] = candidates.get(i).sample - known[s];
                    }
                    for (double o : starts) {
                        TreeSet<Integer> votes = new TreeSet<>();
                        for (int i = 0; i < starts.length; i++) if (Math.abs(starts[i] - o) <= tol) votes.add(candidates.get(i).station);
                        if (votes.size() > most) { most = votes.size(); e.x = x; e.y = y; e.z = depth; e.o = o; }
                    }
                }
            }
            if (most < least) return NONE;
            e.number = events.size(); e.least = least; e.from = clock;
            TreeMap<Integer, Pick> chosen = new TreeMap<>();
            choose(e, candidates, tol, chosen);
            choose(e, free(1), 2.0 * tol, chosen);
            e.members.addAll(chosen.values());
            for (Pick p : e.members) p.event = e;
            events.add(e);
            return e.number;
        });
    }
    public int event(int event, int what) {
        return callInt(() -> {
            Event e = of(events, event);
            in(what, 0, 6);
            Alert a = knownAlert(e);
            return new long[] {e.members.size(), e.from, e.until, e.ended, e.steps, e.firsts(), a == null ? NONE : alerts.indexOf(a)}[what];
        });
    }
    private double residualOf(Event e, Pick p, double x, double y, double z, double o) {
        return (p.sample - o) - arrival(p.station, p.phase, x, y, z);
    }
    private double cost(Event e, double x, double y, double z, double o) {
        double sum = 0.0;
        for (Pick p : e.members) { double r = residualOf(e, p, x, y, z, o); sum += p.quality * (r * r); }
        return sum;
    }
    public long eventAt(int event, int what) {
        return callLong(() -> {
            Event e = of(events, event);
            in(what, 0, 4);
            return bits(what == 0 ? e.x : what == 1 ? e.y : what == 2 ? e.z : what == 3 ? e.o : cost(e, e.x, e.y, e.z, e.o));
        });
    }
    public int member(int event, int k) { return callInt(() -> of(of(events, event).members, k).number); }
    public long residual(int event, int k) {
        return callLong(() -> { Event e = of(events, event); return bits(residualOf(e, of(e.members, k), e.x, e.y, e.z, e.o)); });
    }
    /** N with B behind it in each row. */
    private double[][] normal(Event e) {
        double[][] n = new double[3][4];
        for (Pick p : e.members) {
            double[] g = {
                (arrival(p.station, p.phase, e.x + 1.0, e.y, e.z) - arrival(p.station, p.phase, e.x - 1.0, e.y, e.z)) * 0.5,
                (arrival(p.station, p.phase, e.x, e.y + 1.0, e.z) - arrival(p.station, p.phase, e.x, e.y - 1.0, e.z)) * 0.5,
                1.0};
            double r = residualOf(e, p, e.x, e.y, e.z, e.o);
            for (int j = 0; j < 3; j++) {
                for (int k = 0; k < 3; k++) n[j][k] += p.quality * (g[j] * g[k]);
                n[j][3] += p.quality * (g[j] * r);
            }
        }
        return n;
    }
    static double[] solve(double[][] n) {
        for (int c = 0; c < 3; c++) {
            int best = c;
            for (int i = c; i < 3; i++) if (Math.abs(n[i][c]) > Math.abs(n[best][c])) best = i;
            Collections.swap(Arrays.asList(n), best, c);
            if (!(Math.abs(n[c][c]) > 1.0E-9)) return null;
            for (int i = c + 1; i < 3; i++) {
                double t = n[i][c] / n[c][c];
                for (int k = c; k < 4; k++) n[i][k] = n[i][k] - t * n[c][k];
            }
        }
        double s2 = n[2][3] / n[2][2];
        double s1 = (n[1][3] - n[1][2] * s2) / n[1][1];
        return new double[] {((n[0][3] - n[0][1] * s1) - n[0][2] * s2) / n[0][0], s1, s2};
    }
    public int place(int event, int steps) {
        return callInt(() -> {
            Event e = of(events, event);
            in(steps, 1, 20);
            need(e.known(), STATE);
            taken++;
            e.ended = 0;
            e.steps = 0;
            while (e.steps < steps) {
                double[] s = solve(normal(e));
                if (s == null) { e.ended = 2; break; }
                double before = cost(e, e.x, e.y, e.z, e.o);
                boolean better = false;
                for (double f = 1.0; f >= 0.0078125; f *= 0.5) {
                    double x = e.x + f * s[0], y = e.y + f * s[1], o = e.o + f * s[2];
                    if (cost(e, x, y, e.z, o) < before) { e.x = x; e.y = y; e.o = o; better = true; break; }
                }
                if (!better) { e.ended = 1; break; }
                e.steps++;
            }
            return e.ended;
        });
    }
    public int search(int event, int step, int depthStep) {
        return callInt(() -> {
            Event e = of(events, event);
            in(step, 400, 1000); in(depthStep, 0, 75);
            need(e.known(), STATE);
            taken++;
            double[] best = null;
            for (int x = -1000; x <= 1000; x += step) {
                for (int y = -1000; y <= 1000; y += step) {
                    for (int j = 0; j <= 8; j++) {
                        double z = j * depthStep, above = 0.0, below = 0.0;
                        for (Pick p : e.members) {
                            above += p.quality * (p.sample - arrival(p.station, p.phase, x, y, z));
                            below += p.quality;
                        }
                        double o = above / below, cost = cost(e, x, y, z, o);
                        if (best == null || cost < best[0]) best = new double[] {cost, x, y, z, o};
                    }
                }
            }
            e.x = best[1]; e.y = best[2]; e.z = best[3]; e.o = best[4];
            return 1;
        });
    }
    public long error(int event, int k) {
        return callLong(() -> {
            Event e = of(events, event);
            in(k, 0, 2);
            need(e.known() && e.members.size() >= 4, STATE);
            taken++;
            double[][] n = normal(e);
            for (int j = 0; j < 3; j++) n[j][3] = j == k ? 1.0 : 0.0;
            double[] s = solve(n);
            need(s != null, STATE);
            return bits(Math.sqrt(Math.max(0.0, s[k] * (cost(e, e.x, e.y, e.z, e.o) / (e.members.size() - 3)))));
        });
    }
    static double log(double v) {
        int n = Math.getExponent(v);
        double m = Math.scalb(v, -n), t = (m - 1.0) / (m + 1.0), w = t * t, s = 0.0;
        for (int i = 19; i > 0; i -= 2) s = s * w + 1.0 / i;
        return n + ((2.0 * t) * s) * 1.4426950408889634;
    }
    private Double sizeOf(Event e) {
        taken++;
        List<Double> all = new ArrayList<>();
        for (Pick p : e.members) {
            double a = amplitudeOf(p);
            if (p.phase == 0 && a > 0.0) all.add((log(a) + 1.5 * log(1.0 + distance(p.station, e.x, e.y))) + sites.get(p.station).term / 16.0);
        }
        if (all.isEmpty()) return null;
        Collections.sort(all);
        int n = all.size();
        return n % 2 == 1 ? all.get(n / 2) : (Double) ((all.get(n / 2 - 1) + all.get(n / 2)) * 0.5);
    }
    public long size(int event) {
        return callLong(() -> { Double v = sizeOf(of(events, event)); need(v != null, STATE); return bits(v); });
    }
    public int swarms(int bound) {
        return callInt(() -> {
            in(bound, 0, 100000);
            for (Event e : events) e.swarm = e.known() ? e.number : NONE;
            boolean more = true;
            while (more) {
                more = false;
                for (Event e : events) {
                    for (Event f : events) {
                        if (!e.known() || !f.known()) continue;
                        if ((Math.abs(e.x - f.x) + Math.abs(e.y - f.y)) + Math.abs(e.o - f.o) <= bound && e.swarm < f.swarm) { f.swarm = e.swarm; more = true; }
                    }
                }
            }
            return events.stream().filter(e -> e.swarm == e.number).count();
        });
    }
    public int swarm(int event) { return callInt(() -> of(events, event).swarm); }

    // ---- as known when

    public int known(int c, int what) {
        return callInt(() -> {
            in(c, 0, clock); in(what, 0, 2);
            List<? extends Life> list = what == 0 ? picks : what == 1 ? events : alerts;
            return list.stream().filter(l -> l.at(c)).count();
        });
    }
    public int compare(int c, int d) {
        return callInt(() -> { in(c, 0, clock); in(d, 0, clock); return picks.stream().filter(p -> p.at(c) ^ p.at(d)).count(); });
    }
    public long digest() {
        return callLong(() -> {
            List<Long> all = new ArrayList<>();
            for (Pick p : picks) {
                if (!p.known()) continue;
                all.addAll(List.of((long) p.station, (long) p.sample, (long) p.phase, (long) p.quality, bits(amplitudeOf(p))));
            }
            for (Event e : events) {
                if (!e.known()) continue;
                all.addAll(List.of(bits(e.x), bits(e.y), bits(e.z), bits(e.o)));
                for (Pick p : e.members) all.add((long) p.number);
            }
            long h = -3750763034362895579L;
            for (long v : all) h = (h ^ v) * 1099511628211L;
            return h;
        });
    }
    public int count(int what) {
        return callInt(() -> {
            in(what, 0, 16);
            need(what != 10, OUTSIDE);
            if (what > 10) return failures[what - 10];
            return new int[] {sites.size(), picks.size(), events.size(), alerts.size(), layers.size(), clock, 0, taken, laneRow.size(), laneKind}[what];
        });
    }
    public int code() { return latest; }
}
