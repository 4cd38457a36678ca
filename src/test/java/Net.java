import java.util.StringJoiner;
import java.util.function.Consumer;

/**
 * A QuakeNet as the tests of boundaries use it: each call is also asked of the second writing of the
 * document, and none is made beyond the 512 that the document promises.
 */
final class Net {
    private static final int CALLS_PROMISED = 512;

    private final QuakeNet net = new QuakeNet();
    private final ReferenceNet model = new ReferenceNet();
    private int calls = 0;
    private Consumer<Net> behind = null;
    private boolean within = false;

    /** Does something behind each call from now on (null: nothing), but not behind its own ones. */
    void behind(Consumer<Net> what) {
        behind = what;
    }

    private long both(long got, long want, String name, long... numbers) {
        calls++;
        if (calls == CALLS_PROMISED + 1) {
            Check.fault("the test uses one object for more than " + CALLS_PROMISED + " calls");
        }
        if (got != want) {
            StringJoiner told = new StringJoiner(", ", name + "(", ")");
            for (long v : numbers) told.add(Long.toString(v));
            Check.fault(told + " answered " + got + ", the second writing " + want);
        }
        if (behind != null && !within) {
            within = true;
            behind.accept(this);
            within = false;
        }
        return got;
    }

    int lane(int kind) { return (int) both(net.lane(kind), model.lane(kind), "lane", kind); }
    int raw(long v) { return (int) both(net.raw(v), model.raw(v), "raw", v); }
    int noise(int n, int size, long seed) { return (int) both(net.noise(n, size, seed), model.noise(n, size, seed), "noise", n, size, seed); }
    int swing(int n, int size, int less) { return (int) both(net.swing(n, size, less), model.swing(n, size, less), "swing", n, size, less); }
    int station(int x, int y, int kind) { return (int) both(net.station(x, y, kind), model.station(x, y, kind), "station", x, y, kind); }
    int calibrate(int station, int zero, int up, int down) { return (int) both(net.calibrate(station, zero, up, down), model.calibrate(station, zero, up, down), "calibrate", station, zero, up, down); }
    int filter(int station, int sort, int a) { return (int) both(net.filter(station, sort, a), model.filter(station, sort, a), "filter", station, sort, a); }
    int picker(int station, int sort, int shortOne, int longOne, int bound) { return (int) both(net.picker(station, sort, shortOne, longOne, bound), model.picker(station, sort, shortOne, longOne, bound), "picker", station, sort, shortOne, longOne, bound); }
    int wave(int i, int v) { return (int) both(net.wave(i, v), model.wave(i, v), "wave", i, v); }
    int term(int station, int v) { return (int) both(net.term(station, v), model.term(station, v), "term", station, v); }
    int packet(int station, int block, int kind, int n) { return (int) both(net.packet(station, block, kind, n), model.packet(station, block, kind, n), "packet", station, block, kind, n); }
    long ground(int station, int t) { return both(net.ground(station, t), model.ground(station, t), "ground", station, t); }
    long spectrum(int station, int block, int k) { return both(net.spectrum(station, block, k), model.spectrum(station, block, k), "spectrum", station, block, k); }
    int read(int station, int n) { return (int) both(net.read(station, n), model.read(station, n), "read", station, n); }
    int skip(int station) { return (int) both(net.skip(station), model.skip(station), "skip", station); }
    int rework(int station) { return (int) both(net.rework(station), model.rework(station), "rework", station); }
    int status(int station, int what) { return (int) both(net.status(station, what), model.status(station, what), "status", station, what); }
    long now(int station, int what) { return both(net.now(station, what), model.now(station, what), "now", station, what); }
    int trace(int sort) { return (int) both(net.trace(sort), model.trace(sort), "trace", sort); }
    int pick(int pick, int what) { return (int) both(net.pick(pick, what), model.pick(pick, what), "pick", pick, what); }
    long amplitude(int pick) { return both(net.amplitude(pick), model.amplitude(pick), "amplitude", pick); }
    int tick() { return (int) both(net.tick(), model.tick(), "tick"); }
    int rule(int stations, int size) { return (int) both(net.rule(stations, size), model.rule(stations, size), "rule", stations, size); }
    int alert(int alert, int what) { return (int) both(net.alert(alert, what), model.alert(alert, what), "alert", alert, what); }
    int layer(int thick, int speed) { return (int) both(net.layer(thick, speed), model.layer(thick, speed), "layer", thick, speed); }
    long time(int way, int distance, int depth) { return both(net.time(way, distance, depth), model.time(way, distance, depth), "time", way, distance, depth); }
    int table(int step, int other) { return (int) both(net.table(step, other), model.table(step, other), "table", step, other); }
    long tabled(int distance, int depth) { return both(net.tabled(distance, depth), model.tabled(distance, depth), "tabled", distance, depth); }
    long doubt() { return both(net.doubt(), model.doubt(), "doubt"); }
    int vote(int step, int depth, int tolerance, int least) { return (int) both(net.vote(step, depth, tolerance, least), model.vote(step, depth, tolerance, least), "vote", step, depth, tolerance, least); }
    int event(int event, int what) { return (int) both(net.event(event, what), model.event(event, what), "event", event, what); }
    long eventAt(int event, int what) { return both(net.eventAt(event, what), model.eventAt(event, what), "eventAt", event, what); }
    int member(int event, int k) { return (int) both(net.member(event, k), model.member(event, k), "member", event, k); }
    long residual(int event, int k) { return both(net.residual(event, k), model.residual(event, k), "residual", event, k); }
    int place(int event, int steps) { return (int) both(net.place(event, steps), model.place(event, steps), "place", event, steps); }
    int search(int event, int step, int depthStep) { return (int) both(net.search(event, step, depthStep), model.search(event, step, depthStep), "search", event, step, depthStep); }
    long error(int event, int k) { return both(net.error(event, k), model.error(event, k), "error", event, k); }
    long size(int event) { return both(net.size(event), model.size(event), "size", event); }
    int swarms(int bound) { return (int) both(net.swarms(bound), model.swarms(bound), "swarms", bound); }
    int swarm(int event) { return (int) both(net.swarm(event), model.swarm(event), "swarm", event); }
    int known(int c, int what) { return (int) both(net.known(c, what), model.known(c, what), "known", c, what); }
    int compare(int c, int d) { return (int) both(net.compare(c, d), model.compare(c, d), "compare", c, d); }
    long digest() { return both(net.digest(), model.digest(), "digest"); }
    int count(int what) { return (int) both(net.count(what), model.count(what), "count", what); }
    int code() { return (int) both(net.code(), model.code(), "code"); }
}
