/** STATIONS that bring PICKS at given SAMPLES, by few calls. */
final class Picking {
    private Picking() {
    }

    /** A STATION of INTS: behind silence each beat is a PICK, with a RATE of 2.0 and so a QUALITY of 2. */
    static int station(Net n, int x, int y) {
        int s = n.station(x, y, 1);
        n.picker(s, 0, 1, 2, 16);
        n.lane(1);
        return s;
    }

    /** Rows of silence from the first BLOCK on with beats of a height at these SAMPLES, which are in order. */
    static void rows(Net n, int station, int height, int... samples) {
        int last = samples[samples.length - 1] / 32;
        for (int b = 0; b <= last; b++) {
            int filled = 0;
            for (int t : samples) {
                if (t / 32 == b) {
                    if (t % 32 > filled) n.swing(t % 32 - filled, 0, 0);
                    n.raw(height);
                    filled = t % 32 + 1;
                }
            }
            Check.due("packet of the test", n.packet(station, b, 1, 32), 32);
        }
    }

    private static void readTo(Net n, int station, int from, int end) {
        for (int t = from; t < end; t += 128) n.read(station, Math.min(128, end - t));
    }

    /** PICKS at these SAMPLES in one run; the first one's number. */
    static int hear(Net n, int station, int height, int... samples) {
        int first = n.count(1);
        rows(n, station, height, samples);
        readTo(n, station, 0, samples[samples.length - 1] + 1);
        Check.due("picks of the test", n.count(1), first + samples.length);
        return first;
    }

    /** PICKS at these SAMPLES, all of PHASE 0: it is BEGUN ANEW behind each. */
    static int hearAnew(Net n, int station, int... samples) {
        int first = n.count(1), from = 0;
        rows(n, station, 1000, samples);
        for (int t : samples) {
            readTo(n, station, from, t + 1);
            n.filter(station, 0, 8);
            from = t + 1;
        }
        Check.due("picks of the test", n.count(1), first + samples.length);
        return first;
    }

    /** A STATION whose every fourth SAMPLE from 3 on can be a PICK of PHASE 0, by read(.., 4) and filter(). */
    static int beatingStation(Net n, int x, int y, int blocks) {
        int s = station(n, x, y);
        n.calibrate(s, 500, 1, 1);
        for (int b = 0; b < blocks; b++) {
            n.swing(32, 500, 0);
            n.packet(s, b, 1, 32);
        }
        return s;
    }

    static void beat(Net n, int station) {
        n.read(station, 4);
        n.filter(station, 0, 8);
    }

    /** One LAYER of speed 10, and four STATIONS 200, 400, 600, 800 from the middle. */
    static Net around() {
        Net n = new Net();
        n.layer(200, 160);
        station(n, 200, 0);
        station(n, 0, 400);
        station(n, -600, 0);
        station(n, 0, -800);
        return n;
    }

    /** Around, a shake in the middle at 10. */
    static Net shaken() {
        Net n = around();
        for (int s = 0; s < 4; s++) hear(n, s, 1000, 30 + 20 * s);
        return n;
    }
}
