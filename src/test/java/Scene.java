import java.util.function.Consumer;

/** An object in the middle of its work, with some of everything, and a look at all of it. */
final class Scene {
    private Scene() {
    }

    /**
     * Three LAYERS with a TABLE; six STATIONS of all KINDS; EVENT 0 is TAKEN BACK with its ALERT, EVENT 1 is
     * KNOWN, has an ALERT and more than three members; STATION 5 is in the midst of a row, and not all of
     * its PICKER is 0.0; THE LANE has three DOUBLES, one of them not a number.
     */
    static Net make() {
        return make(null);
    }

    /** The same, but that something is done behind each single call of it. */
    static Net make(Consumer<Net> behind) {
        Net n = new Net();
        n.behind(behind);
        fill(n);
        n.behind(null);
        return n;
    }

    private static void fill(Net n) {
        n.layer(30, 96);
        n.layer(60, 128);
        n.layer(10, 160);
        n.table(40, 20);
        n.rule(3, 16);
        for (int i = 0; i < 8; i++) n.wave(i, i % 2 == 0 ? 10 - i : i - 10);
        int[][] places = {{100, 0, 1}, {0, 200, 1}, {-300, 0, 1}, {0, -400, 1}, {250, 250, 2}, {50, 50, 3}};
        for (int[] p : places) n.station(p[0], p[1], p[2]);
        for (int s = 0; s < 5; s++) {
            n.picker(s, 0, 2, 8, 40);
            n.term(s, 7 * s - 10);
        }
        n.lane(1);
        for (int s = 0; s < 4; s++) shake(n, s, 0, 1, 20);
        n.lane(2);
        shake(n, 4, 0, 2, 18);
        n.vote(500, 10, 400, 4);
        n.place(0, 3);
        n.tick();
        n.swarms(500);
        for (int s = 0; s < 2; s++) n.rework(s);
        n.lane(1);
        for (int s = 0; s < 2; s++) {
            n.skip(s);
            shake(n, s, 1, 1, 17 + s);
        }
        n.tick();
        n.vote(500, 20, 400, 3);
        n.place(1, 2);
        n.swarms(800);
        n.tick();
        n.filter(5, 3, 11);
        n.calibrate(5, 2, -3, 5);
        n.picker(5, 3, 2, 4, 20);
        n.lane(3);
        n.noise(32, 300, 5);
        n.packet(5, 0, 3, 32);
        n.swing(32, 4000, 90);
        n.packet(5, 1, 3, 32);
        n.read(5, 27);
        n.raw(33);
        n.raw(Long.MIN_VALUE);
        n.raw(-5);
    }

    private static void shake(Net n, int station, int block, int kind, int from) {
        n.noise(from, 4, 11 + station);
        n.swing(32 - from, 900 + 10 * station, 40);
        n.packet(station, block, kind, 32);
        n.read(station, 40);
    }

    /** All that later calls can show of a scene, but code() and the counts of work rows and FAILURES. */
    static String look(Net n) {
        StringBuilder b = new StringBuilder();
        for (int w : new int[] {0, 1, 2, 3, 4, 5, 6, 8, 9}) add(b, n.count(w));
        for (int s = 0; s < 6; s++) {
            for (int w : new int[] {0, 1, 2, 3, 4, 8, 9}) add(b, n.status(s, w));
        }
        for (int w = 0; w < 4; w++) add(b, n.trace(w));
        for (int p = 0; p < n.count(1); p++) {
            add(b, n.pick(p, 4));
            add(b, n.pick(p, 6));
        }
        for (int e = 0; e < 2; e++) {
            for (int w = 0; w < 7; w++) add(b, n.event(e, w));
            add(b, n.eventAt(e, 2));
            add(b, n.eventAt(e, 4));
            add(b, n.swarm(e));
        }
        for (int a = 0; a < 2; a++) add(b, n.alert(a, 2));
        for (int c = 0; c < 4; c++) add(b, n.known(c, 0) * 10000 + n.known(c, 1) * 100 + n.known(c, 2));
        add(b, n.digest());
        for (int way = 0; way < 5; way++) add(b, n.time(way, 700, 20));
        add(b, n.tabled(5601, 77));
        add(b, n.doubt());
        act(n, b);
        return b.toString();
    }

    // What lies hidden shows itself by going on: the lane, the picker's numbers, the rule, terms and the wave.
    private static void act(Net n, StringBuilder b) {
        add(b, n.now(5, 0));
        add(b, n.now(5, 1));
        add(b, n.read(5, 30));
        add(b, n.now(5, 0));
        add(b, n.now(5, 1));
        add(b, n.packet(5, 9, 3, 4));
        for (int i = 0; i < 4; i++) add(b, n.ground(5, 288 + i));
        add(b, n.size(1));
        add(b, n.error(1, 0));
        add(b, n.tick());
        add(b, n.rule(4, 400));
        add(b, n.tick());
        add(b, n.vote(1000, 10, 400, 2));
        for (int s = 0; s < 6; s++) {
            add(b, n.term(s, 1));
            add(b, n.filter(s, 0, 8));
            add(b, n.picker(s, 0, 4, 16, 48));
            add(b, n.skip(s));
        }
        for (int i = 0; i < 8; i++) add(b, n.wave(i, 0));
        add(b, n.digest());
        for (int w : new int[] {1, 2, 3}) add(b, n.count(w));
    }

    /** A look at any object at all, by few calls. */
    static String glance(Net n) {
        StringBuilder b = new StringBuilder();
        for (int w : new int[] {0, 1, 2, 3, 4, 5, 6, 8, 9}) add(b, n.count(w));
        for (int s = 0; s < Math.min(3, n.count(0)); s++) {
            for (int w = 0; w < 10; w++) add(b, n.status(s, w));
            add(b, n.now(s, 0));
            add(b, n.now(s, 1));
        }
        for (int w = 0; w < 4; w++) add(b, n.trace(w));
        int pick = n.count(1) - 1;
        for (int w = 0; w < 7; w++) add(b, n.pick(pick, w));
        int event = n.count(2) - 1;
        for (int w = 0; w < 7; w++) add(b, n.event(event, w));
        for (int w = 0; w < 5; w++) add(b, n.eventAt(event, w));
        for (int w = 0; w < 3; w++) add(b, n.alert(n.count(3) - 1, w));
        for (int w = 0; w < 3; w++) add(b, n.known(n.count(5), w));
        for (int way = 0; way < 8; way++) add(b, n.time(way, 700, 20));
        add(b, n.tabled(5601, 77));
        add(b, n.doubt());
        add(b, n.digest());
        return b.toString();
    }

    private static void add(StringBuilder b, long v) {
        b.append(v).append(' ');
    }
}
