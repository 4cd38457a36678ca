/** The boundary cases of section 4: LAYERS, DIRECT, BORDERS, THE TABLE. */
public final class TimesTest {
    private static Net layered(int... thickAndSpeed) {
        Net n = new Net();
        for (int i = 0; i < thickAndSpeed.length; i += 2) n.layer(thickAndSpeed[i], thickAndSpeed[i + 1]);
        return n;
    }

    private static double time(Net n, int way, int distance, int depth) {
        double t = Check.number(n.time(way, distance, depth));
        Check.due("time is not refused", n.code(), 0);
        return t;
    }

    private static void near(String what, double got, double want) {
        Check.must(what + ": " + got + " is about " + want, Math.abs(got - want) <= 1e-9 * (1.0 + Math.abs(want)));
    }

    /** DIRECT through such thicknesses by such speeds, all of them above 0.0. */
    private static double through(double d, double[] h, double[] v) {
        double greatest = 0.0;
        for (double one : v) greatest = Math.max(greatest, one);
        double a = 0.0, b = 1.0 / greatest;
        for (int turn = 0; turn < 60; turn++) {
            double m = (a + b) * 0.5, far = 0.0;
            for (int i = 0; i < h.length; i++) {
                far = far + (h[i] * (m * v[i])) / Math.sqrt(Math.max(0.0, 1.0 - (m * v[i]) * (m * v[i])));
            }
            if (far < d) a = m;
            else b = m;
        }
        double t = a * d;
        for (int i = 0; i < h.length; i++) t = t + h[i] * Math.sqrt(Math.max(0.0, 1.0 / (v[i] * v[i]) - a * a));
        return t;
    }

    // ---- layers

    private static void layerOfTheSource() {
        Check.says("The source lies at depth z in LAYER q, the first one whose lower border is below z (the last one, if none is)");
        Net n = layered(30, 48, 50, 80, 1, 160);
        for (int d : new int[] {0, 1, 40, 333, 4000}) {
            Check.due("above the first border", n.time(1, d, 29), Math.sqrt((double) d * d + 29.0 * 29.0) / 3.0);
            Check.due("at it", n.time(1, d, 30), through(d, new double[] {30}, new double[] {3}));
            Check.due("below it", n.time(1, d, 31), through(d, new double[] {30, 1}, new double[] {3, 5}));
            Check.due("above the second", n.time(1, d, 79), through(d, new double[] {30, 49}, new double[] {3, 5}));
            Check.due("at it", n.time(1, d, 80), through(d, new double[] {30, 50}, new double[] {3, 5}));
            Check.due("in the last one", n.time(1, d, 81), through(d, new double[] {30, 50, 1}, new double[] {3, 5, 10}));
            Check.due("the last one never ends", n.time(1, d, 600), through(d, new double[] {30, 50, 520}, new double[] {3, 5, 10}));
        }
        Check.must("border 1 from above it", n.time(3, 4000, 29) != 0L);
        Check.refuses("border 1 from its own depth", n, Check.STATE, m -> m.time(3, 4000, 30));
        Check.must("border 2 from above it", n.time(4, 4000, 79) != 0L);
        Check.refuses("border 2 from its own depth", n, Check.STATE, m -> m.time(4, 4000, 80));
        Net one = layered(30, 48);
        for (int z : new int[] {0, 29, 30, 31, 600}) {
            Check.due("the only one at " + z, one.time(1, 40, z), Math.sqrt(1600.0 + (double) z * z) / 3.0);
        }
    }

    private static void crossedOnes() {
        Check.says("of those LAYERS 0 .. q whose H is > 0.0: f is 1.0 / the greatest v");
        Net n = layered(30, 48, 50, 160);
        for (int d : new int[] {0, 10, 100, 1000, 4000}) {
            near("the fast one below is not crossed", time(n, 1, d, 30), Math.sqrt((double) d * d + 900.0) / 3.0);
        }
        Check.due("it is from 31 on", n.time(1, 4000, 31), through(4000.0, new double[] {30, 1}, new double[] {3, 10}));
        Check.must("then most of the way lies in it", time(n, 1, 4000, 31) < 410.0);
        Check.due("straight up", n.time(1, 0, 31), 0.0 + 30.0 * Math.sqrt(1.0 / (3.0 * 3.0)) + 1.0 * Math.sqrt(1.0 / (10.0 * 10.0)));
        Check.says("60 times: m is (a + b) * 0.5");
        Check.due("where 59 are too few", layered(147, 104, 5, 112).time(1, 6, 542), through(6.0, new double[] {147, 395}, new double[] {6.5, 7}));
        Check.says("f is 1.0 / the greatest v, wherever it is");
        // where halving from 1.0 / v 0 on would tell another last bit
        Check.due("it is below", layered(6, 1, 5, 140).time(1, 33, 105), through(33.0, new double[] {6, 99}, new double[] {1 / 16.0, 140 / 16.0}));
        Check.due("it is below", layered(75, 7, 5, 95).time(1, 21, 309), through(21.0, new double[] {75, 234}, new double[] {7 / 16.0, 95 / 16.0}));
        Net slow = layered(30, 160, 50, 48);
        Check.due("the greatest is above", slow.time(1, 4000, 60), through(4000.0, new double[] {30, 30}, new double[] {10, 3}));
        Check.due("nowhere at all", slow.time(1, 0, 0), 0.0);
        Check.due("not refused", slow.code(), 0);
    }

    // ---- borders

    private static double border(double d, double fast, double[] g, double[] v) {
        double t = d / fast;
        for (int i = 0; i < g.length; i++) t = t + g[i] * Math.sqrt(Math.max(0.0, 1.0 / (v[i] * v[i]) - 1.0 / (fast * fast)));
        return t;
    }

    private static void fasterThanAll() {
        Check.says("BORDER k (k > q, a LAYER) is there if its v, V, is greater than that of all above it");
        Check.must("greater", layered(5, 80, 5, 81).time(3, 4000, 0) != 0L);
        Check.refuses("as great", layered(5, 80, 5, 80), Check.STATE, m -> m.time(3, 4000, 0));
        Check.refuses("less", layered(5, 80, 5, 79), Check.STATE, m -> m.time(3, 4000, 0));
        Net n = layered(5, 80, 5, 40, 5, 80, 5, 81, 5, 160);
        Check.refuses("as great as the first", n, Check.STATE, m -> m.time(4, 4000, 0));
        Check.must("greater than all", n.time(5, 4000, 0) != 0L);
        Check.must("the last LAYER", n.time(6, 4000, 0) != 0L);
        Check.refuses("no LAYER", n, Check.STATE, m -> m.time(7, 4000, 0));
        Check.refuses("border 0", n, Check.STATE, m -> m.time(2, 4000, 0));
        Check.refuses("q itself", n, Check.STATE, m -> m.time(6, 4000, 20));
        Check.must("from just above", n.time(6, 4000, 19) != 0L);
        Check.refuses("q is behind it", n, Check.STATE, m -> m.time(5, 4000, 20));
    }

    private static void farEnough() {
        Check.says("and d is not < the sum of (G * r) / sqrt(1.0 - r * r)");
        // 5, 12, 13: r is 5 / 13, and (12 * r) / (12 / 13) is 5
        Net n = layered(6, 5, 9, 13);
        Check.refuses("4", n, Check.STATE, m -> m.time(3, 4, 0));
        Check.due("just 5", n.time(3, 5, 0), border(5.0, 13 / 16.0, new double[] {12}, new double[] {5 / 16.0}));
        Check.must("6", n.time(3, 6, 0) != 0L);
        Net deep = layered(16, 5, 9, 13);
        Check.refuses("9", deep, Check.STATE, m -> m.time(3, 9, 8));
        Check.due("just 10", deep.time(3, 10, 8), border(10.0, 13 / 16.0, new double[] {24}, new double[] {5 / 16.0}));
        Check.refuses("13 from 0", deep, Check.STATE, m -> m.time(3, 13, 0));
        Check.must("14 from 0", deep.time(3, 14, 0) != 0L);
        Net thin = layered(1, 80, 1, 160);
        Check.refuses("1 by a thin one", thin, Check.STATE, m -> m.time(3, 1, 0));
        Check.due("2 by a thin one", thin.time(3, 2, 0), border(2.0, 10.0, new double[] {2}, new double[] {5}));
        Check.due("DIRECT is sooner", thin.time(0, 2, 0), 2.0 / 5.0);
        Check.due("6 by a thin one, and it is sooner", thin.time(0, 6, 0), border(6.0, 10.0, new double[] {2}, new double[] {5}));
    }

    private static void thicknesses() {
        Check.says("G i being how thick LAYER i is for i < q, how thick it is + (its lower border - z) for q, 2.0 * how thick it is for the others");
        Net n = layered(10, 16, 20, 32, 40, 48, 1, 160);
        double[] v = {1, 2, 3};
        Check.due("q 0", n.time(5, 4000, 4), border(4000, 10, new double[] {10 + 6, 40, 80}, v));
        Check.due("q 1", n.time(5, 4000, 14), border(4000, 10, new double[] {10, 20 + 16, 80}, v));
        Check.due("q 1 at its upper border", n.time(5, 4000, 10), border(4000, 10, new double[] {10, 20 + 20, 80}, v));
        Check.due("q 2", n.time(5, 4000, 69), border(4000, 10, new double[] {10, 20, 40 + 1}, v));
    }

    private static void theLeastOfThem() {
        Check.says("TIME is the min of DIRECT and the BORDERS that are there");
        Net n = layered(30, 48, 50, 80);
        // by its line BORDER 1 would be sooner here, but it is not there
        Check.refuses("border 1 is not there", n, Check.STATE, m -> m.time(3, 0, 29));
        Check.must("it would be sooner", border(0, 5, new double[] {31}, new double[] {3}) < 29.0 / 3.0);
        Check.due("so DIRECT it is", n.time(0, 0, 29), 29.0 / 3.0);
        int direct = 0, along = 0;
        for (int d = 30; d <= 210; d += 20) {
            double one = time(n, 1, d, 5), other = time(n, 3, d + 30, 5);
            Check.due("the lesser at " + d, n.time(0, d, 5), Math.min(one, d >= 45 ? time(n, 3, d, 5) : one));
            if (d >= 45 && time(n, 3, d, 5) < one) along++;
            else direct++;
            Check.must("a time", other > 0.0);
        }
        Check.must("each is at times", direct > 2 && along > 2);
        Net two = layered(10, 16, 10, 32, 10, 64);
        Check.due("the second BORDER, far away", two.time(0, 4000, 0), two.time(4, 4000, 0) == 0L ? -1.0 : time(two, 4, 4000, 0));
        Check.must("it is sooner than the first", time(two, 4, 4000, 0) < time(two, 3, 4000, 0));
        Check.due("the first BORDER, not so far", two.time(0, 42, 0), time(two, 3, 42, 0));
        Check.must("it is sooner than the second", time(two, 3, 42, 0) < time(two, 4, 42, 0));
    }

    private static void layersAtMost() {
        Check.says("LAYERS (6 at most); there is no TABLE any more");
        Net n = new Net();
        for (int i = 0; i < 6; i++) {
            Check.due("its number", n.layer(10, 20 + i), i);
            Check.refuses("no table", n, Check.STATE, m -> m.doubt());
            n.table(5, 5);
            Check.must("a table", n.doubt() != 0L);
        }
        Check.refuses("a 7th", n, Check.ROOM, m -> m.layer(10, 30));
        Check.must("the table stays", n.doubt() != 0L);
        Check.due("layers", n.count(4), 6);
        Check.refuses("outside", n, Check.OUTSIDE, m -> m.layer(0, 30));
        Check.must("the table stays", n.doubt() != 0L);
    }

    // ---- the table

    private static double between(Net n, int i, int j, int step, int other, double d, double z) {
        double a = time(n, 0, i * step, j * other), b = time(n, 0, (i + 1) * step, j * other);
        double c = time(n, 0, i * step, (j + 1) * other), e = time(n, 0, (i + 1) * step, (j + 1) * other);
        double f = d / step - i, g = z / other - j;
        return (a * (1.0 - f) + b * f) * (1.0 - g) + (c * (1.0 - f) + e * f) * g;
    }

    private static void atItsEdges() {
        Check.says("TABLED(d, z) is TIME, if there is no TABLE, d > 40.0 * its step, or z > 8.0 * its other one");
        for (int[] steps : new int[][] {{20, 10}, {3, 7}, {1, 1}, {100, 75}}) {
            int step = steps[0], other = steps[1], d = 40 * step, z = 8 * other;
            Net n = layered(13, 48, 29, 70, 1, 150);
            Net bare = layered(13, 48, 29, 70, 1, 150);
            n.table(step, other);
            // two eighths of the last cell lie between its corners
            long inside = n.tabled(8 * d, 8 * z - 2), within = n.tabled(8 * d - 2, 8 * z);
            Check.due("just its last distance", inside, between(n, 39, 7, step, other, d, z - 0.25));
            Check.due("just its last depth", within, between(n, 39, 7, step, other, d - 0.25, z));
            Check.must("no TIME", inside != bare.tabled(8 * d, 8 * z - 2) && within != bare.tabled(8 * d - 2, 8 * z));
            Check.due("its last corner", n.tabled(8 * d, 8 * z), between(n, 39, 7, step, other, d, z));
            if (8 * d < 32000) Check.due("an eighth beyond its distance", n.tabled(8 * d + 1, 8 * z - 2), bare.tabled(8 * d + 1, 8 * z - 2));
            if (8 * z < 4800) Check.due("an eighth beyond its depth", n.tabled(8 * d - 2, 8 * z + 1), bare.tabled(8 * d - 2, 8 * z + 1));
        }
        Net n = layered(13, 48, 29, 70);
        Check.due("without a TABLE", n.tabled(8 * 123, 8 * 45), n.time(0, 123, 45));
        n.table(100, 75);
        n.layer(1, 150);
        Check.due("there is none any more", n.tabled(8 * 123, 8 * 45), n.time(0, 123, 45));
    }

    private static void cells() {
        Check.says("i = min(39.0, floor(d / step)), j = min(7.0, floor(z / other))");
        Net n = layered(13, 48, 29, 70, 1, 150);
        n.table(20, 10);
        int[][] places = {{0, 0}, {159, 79}, {160, 80}, {161, 81}, {6239, 559}, {6240, 560}, {6241, 561}, {6399, 639}, {6400, 640}, {6400, 0}, {0, 640}};
        int[][] cells = {{0, 0}, {0, 0}, {1, 1}, {1, 1}, {38, 6}, {39, 7}, {39, 7}, {39, 7}, {39, 7}, {39, 0}, {0, 7}};
        for (int k = 0; k < places.length; k++) {
            double want = between(n, cells[k][0], cells[k][1], 20, 10, places[k][0] / 8.0, places[k][1] / 8.0);
            Check.due("at " + places[k][0] + ", " + places[k][1], n.tabled(places[k][0], places[k][1]), want);
        }
    }

    private static void theGreatestDoubt() {
        Check.says("doubt: the greatest abs(TABLED - TIME) at the middles of THE TABLE's 320 cells");
        // the slow last layer begins within the last row of cells, the fast one within the last but one
        for (int[] all : new int[][] {{190, 160, 190, 160, 160, 160, 1, 1}, {30, 48, 60, 100}, {200, 16}, {100, 32, 200, 16, 200, 160}}) {
            double most = 0.0;
            for (int j = 0; j < 8; j++) {
                Net n = layered(all);
                n.table(10, 74);
                for (int i = 0; i < 40; i++) {
                    double t = time(n, 0, 10 * i + 5, 74 * j + 37);
                    most = Math.max(most, Math.abs(Check.number(n.tabled(40 * (2 * i + 1), 296 * (2 * j + 1))) - t));
                }
            }
            Net n = layered(all);
            n.table(10, 74);
            Check.due("doubt", n.doubt(), most);
        }
    }

    private static void arrivals() {
        Check.says("THE ARRIVAL: t = TABLED(sqrt(dx * dx + dy * dy), z); of PHASE 1: t * 1.75");
        Net n = layered(30, 48, 50, 80);
        n.table(10, 5);
        // the vote's first node is -1000, -1000; 3-4-5 triangles, within the table, at its end, and beyond it
        int[][] places = {{-1000 + 180, -1000 + 240}, {-1000 + 240, -1000 + 320}, {-1000 + 243, -1000 + 324}};
        int[] distances = {300, 400, 405};
        n.lane(1);
        for (int s = 0; s < 3; s++) {
            n.station(places[s][0], places[s][1], 1);
            n.calibrate(s, 500, 1, 1);
            n.picker(s, 0, 1, 2, 16);
            n.swing(32, 500, 0);
            n.packet(s, 0, 1, 32);
            n.read(s, 4);
        }
        Check.due("vote", n.vote(1000, 38, 400, 2), 0);
        Check.due("at the first node", n.eventAt(0, 0), -1000.0);
        Check.due("at the first node", n.eventAt(0, 1), -1000.0);
        double o = Check.number(n.eventAt(0, 3));
        for (int k = 0; k < n.event(0, 0); k++) {
            int s = n.pick(n.member(0, k), 0);
            double t = Check.number(n.tabled(8 * distances[s], 8 * 38));
            Check.due("residual of " + s, n.residual(0, k), (3.0 - o) - t);
        }
        Check.due("members", n.event(0, 0), 3);
    }

    public static void main(String[] args) {
        layerOfTheSource();
        crossedOnes();
        fasterThanAll();
        farEnough();
        thicknesses();
        theLeastOfThem();
        layersAtMost();
        atItsEdges();
        cells();
        theGreatestDoubt();
        arrivals();
        Check.end("times");
    }
}
