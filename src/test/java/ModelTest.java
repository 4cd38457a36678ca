import java.lang.reflect.Method;
import java.util.Arrays;
import java.util.HashMap;
import java.util.Map;
import java.util.Random;
import java.util.TreeMap;

/** Runs of drawn calls (the seeds are fixed) on the program and on ReferenceNet: all answers must agree. */
public final class ModelTest {
    private static final Map<String, Method> OURS = new HashMap<>();
    private static final Map<String, Method> THEIRS = new HashMap<>();
    private static final Map<String, Integer> MET = new TreeMap<>();
    private static final String[] MUST_BE_MET = {
        "alert answered", "amplitude answered", "calibrate answered", "compare answered", "count answered",
        "digest answered", "doubt answered", "error answered", "error refused -103", "event answered",
        "eventAt answered", "filter answered", "ground answered", "ground refused -11", "ground refused -12",
        "ground refused -13", "known answered", "layer refused -104", "member answered", "noise refused -104",
        "now answered", "packet answered", "packet refused -103", "packet refused -14", "packet refused -15",
        "packet refused -16", "place answered 0", "place answered 1", "place answered 2", "place refused -103",
        "raw refused -104", "read answered 0", "read answered 1", "read answered 2", "read answered 3",
        "read answered 4", "read refused -104", "residual answered", "rework answered", "rule answered",
        "search answered", "search refused -103", "size answered", "size refused -103", "skip answered",
        "skip refused -103", "spectrum answered", "spectrum refused -11", "spectrum refused -12",
        "spectrum refused -13", "station refused -104", "status answered", "swarm answered", "swarm answered -109",
        "swarms answered", "swing refused -104", "table answered", "tabled answered", "term answered",
        "tick answered", "tick refused -104", "time answered", "time refused -103", "trace answered",
        "vote answered", "vote answered -109", "vote refused -104", "wave answered",
    };
    private static int wrong = 0;

    private final QuakeNet net = new QuakeNet();
    private final ReferenceNet model = new ReferenceNet();
    private final StringBuilder told = new StringBuilder();
    private final Random random;
    private boolean broken = false;

    private ModelTest(long seed) {
        random = new Random(seed);
    }

    public static void main(String[] args) throws Exception {
        for (Method m : QuakeNet.class.getDeclaredMethods()) {
            if (java.lang.reflect.Modifier.isPublic(m.getModifiers())) {
                OURS.put(m.getName(), m);
                THEIRS.put(m.getName(), ReferenceNet.class.getMethod(m.getName(), m.getParameterTypes()));
            }
        }
        int scale = args.length > 0 ? Integer.parseInt(args[0]) : 1;
        int from = args.length > 1 ? Integer.parseInt(args[1]) : 0;
        for (int seed = from; seed < from + 150 * scale && wrong < 5; seed++) {
            new ModelTest(seed).wild(512);
        }
        for (int seed = from; seed < from + 60 * scale && wrong < 5; seed++) {
            new ModelTest(1000000 + seed).quake();
        }
        for (int seed = from; seed < from + 40 * scale && wrong < 5; seed++) {
            new ModelTest(2000000 + seed).manyPicks();
        }
        for (int seed = from; seed < from + 10 * scale && wrong < 5; seed++) {
            new ModelTest(3000000 + seed).fading();
        }
        for (int seed = from; seed < from + 20 * scale && wrong < 5; seed++) {
            new ModelTest(4000000 + seed).fullRooms();
        }
        if (args.length > 2) {
            MET.forEach((what, times) -> System.out.println(what + ": " + times));
        }
        for (String what : MUST_BE_MET) {
            if (MET.getOrDefault(what, 0) < 3 * scale) {
                wrong++;
                System.out.println("met too seldom: " + what + ", " + MET.getOrDefault(what, 0) + " times");
            }
        }
        System.out.println(wrong == 0 ? "the program and the model agree" : wrong + " runs differ");
        if (wrong != 0) {
            System.exit(1);
        }
    }

    // ---- single calls

    private long call(String name, Object... args) throws Exception {
        if (broken) {
            return 0L;
        }
        long got = ((Number) OURS.get(name).invoke(net, args)).longValue();
        long want = ((Number) THEIRS.get(name).invoke(model, args)).longValue();
        told.append(name).append(Arrays.toString(args)).append(" = ").append(got).append('\n');
        int code = net.code();
        tally(name, code, got);
        if (got != want || code != model.code()) {
            broken = true;
            wrong++;
            String all = told.toString();
            System.out.println(all.substring(Math.max(0, all.length() - 1500)));
            System.out.println(".. due was " + want + " with code " + model.code() + ", code was " + code);
        }
        return want;
    }

    // What the runs met, so that it shows if they no longer reach a part of the document.
    private static void tally(String name, int code, long got) {
        if (code != 0) {
            MET.merge(name + " refused " + code, 1, Integer::sum);
        } else if (name.equals("place") || name.equals("read") || got == QuakeNet.NONE) {
            MET.merge(name + " answered " + got, 1, Integer::sum);
        } else {
            MET.merge(name + " answered", 1, Integer::sum);
        }
    }

    private int in(int low, int high) {
        return low + random.nextInt(high - low + 1);
    }

    /** Mostly within its bounds, now and then at them, beside them, or anywhere. */
    private int near(int low, int high) {
        switch (random.nextInt(24)) {
            case 0: return low;
            case 1: return high;
            case 2: return random.nextInt(3) == 0 ? low - 1 : in(low, high);
            case 3: return random.nextInt(3) == 0 ? high + 1 : in(low, high);
            case 4: return random.nextInt(8) == 0 ? random.nextInt() : in(low, high);
            case 5: return random.nextInt(16) == 0 ? (random.nextBoolean() ? Integer.MIN_VALUE : Integer.MAX_VALUE) : in(low, high);
            default: return in(low, high);
        }
    }

    private int site() {
        return near(0, Math.max(0, model.sites.size() - 1));
    }

    private long drawnLong() {
        switch (random.nextInt(6)) {
            case 0: return Long.MIN_VALUE;
            case 1: return random.nextLong();
            case 2: return random.nextInt();
            case 3: return random.nextInt(3) - 1;
            default: return in(-3000, 3000);
        }
    }

    private void drawn(String name) throws Exception {
        switch (name) {
            case "lane": call(name, near(0, 3)); break;
            case "raw": call(name, drawnLong()); break;
            case "noise": call(name, near(1, 32), near(0, 30000), random.nextLong()); break;
            case "swing": call(name, near(1, 32), near(0, 30000), near(0, 30000)); break;
            case "station": call(name, near(-1000, 1000), near(-1000, 1000), near(0, 3)); break;
            case "calibrate": call(name, site(), near(-1000, 1000), near(-1000, 1000), random.nextInt(4) == 0 ? 0 : near(-1000, 1000)); break;
            case "filter": call(name, site(), near(0, 3), near(0, 16)); break;
            case "picker": call(name, site(), near(0, 3), near(1, 16), near(2, random.nextBoolean() ? 6 : 64), near(1, random.nextBoolean() ? 24 : 255)); break;
            case "wave": call(name, near(0, 7), near(-100, 100)); break;
            case "term": call(name, site(), near(-1000, 1000)); break;
            case "packet": call(name, site(), near(0, 31), near(0, 3), near(0, 32)); break;
            case "ground": call(name, site(), near(0, 1023)); break;
            case "spectrum": call(name, site(), near(0, 31), near(0, 16)); break;
            case "read": call(name, site(), near(1, 128)); break;
            case "skip": case "rework": call(name, site()); break;
            case "status": call(name, site(), near(0, 9)); break;
            case "now": call(name, site(), near(0, 1)); break;
            case "trace": call(name, near(0, 3)); break;
            case "pick": call(name, near(0, Math.max(0, model.picks.size() - 1)), near(0, 6)); break;
            case "amplitude": call(name, near(0, Math.max(0, model.picks.size() - 1))); break;
            case "rule": call(name, near(2, random.nextBoolean() ? 3 : 16), near(-1000, 1000)); break;
            case "alert": call(name, near(0, Math.max(0, model.alerts.size() - 1)), near(0, 2)); break;
            case "layer": call(name, near(1, 200), near(1, 160)); break;
            case "time": call(name, near(0, 7), near(0, 4000), near(0, 600)); break;
            case "table": call(name, near(1, 100), near(1, 75)); break;
            case "tabled": call(name, near(0, 32000), near(0, 4800)); break;
            case "vote": call(name, near(200, 1000), near(0, 600), near(0, 400), near(2, random.nextBoolean() ? 3 : 16)); break;
            case "compare": call(name, near(0, model.clock), near(0, model.clock)); break;
            case "known": call(name, near(0, model.clock), near(0, 2)); break;
            case "count": call(name, near(0, 16)); break;
            case "swarms": call(name, near(0, random.nextBoolean() ? 100000 : 2000)); break;
            case "event": call(name, event(), near(0, 6)); break;
            case "eventAt": call(name, event(), near(0, 4)); break;
            case "member": case "residual": call(name, event(), near(0, 5)); break;
            case "place": call(name, event(), near(1, 20)); break;
            case "search": call(name, event(), near(400, 1000), near(0, 75)); break;
            case "error": call(name, event(), near(0, 2)); break;
            case "size": case "swarm": call(name, event()); break;
            default: call(name);
        }
    }

    private int event() {
        return near(0, Math.max(0, model.events.size() - 1));
    }

    // ---- runs

    private void wild(int calls) throws Exception {
        String[] names = OURS.keySet().toArray(new String[0]);
        Arrays.sort(names);
        for (int i = in(0, 4); i > 0; i--) {
            drawn("station");
            drawn("layer");
        }
        for (int i = 0; i < calls && !broken; i++) {
            drawn(names[random.nextInt(names.length)]);
            if (random.nextInt(3) == 0 && !model.sites.isEmpty()) {
                fill(random.nextInt(model.sites.size()), random.nextInt(32), in(0, 32));
            }
            if (random.nextInt(4) == 0) {
                drawn("read");
            }
        }
        lookAtAll();
    }

    /** A packet that mostly fits its station, with all sorts of numbers in it. */
    private void fill(int station, int block, int n) throws Exception {
        int kind = random.nextInt(12) == 0 ? in(0, 3) : model.sites.get(station).kind;
        call("lane", kind);
        int lane = random.nextInt(12) == 0 ? 32 : n;
        while (model.laneRow.size() < lane && !broken) {
            int left = lane - model.laneRow.size();
            switch (random.nextInt(3)) {
                case 0: call("raw", drawnLong()); break;
                case 1: call("noise", in(1, left), in(0, 50), random.nextLong()); break;
                default: call("swing", in(1, left), in(0, 30000), in(0, 3000));
            }
        }
        call("packet", station, block, kind, n);
    }

    private void lookAtAll() throws Exception {
        for (int s = 0; s < model.sites.size(); s++) {
            for (int w = 0; w < 10; w++) call("status", s, w);
            for (int w = 0; w < 2; w++) call("now", s, w);
        }
        for (int p = 0; p < model.picks.size(); p++) {
            for (int w = 0; w < 7; w++) call("pick", p, w);
            call("amplitude", p);
        }
        for (int e = 0; e < model.events.size(); e++) {
            for (int w = 0; w < 7; w++) call("event", e, w);
            for (int w = 0; w < 5; w++) call("eventAt", e, w);
            for (int k = 0; k <= model.events.get(e).members.size(); k++) {
                call("member", e, k);
                call("residual", e, k);
            }
            call("size", e);
            call("swarm", e);
        }
        for (int a = 0; a < model.alerts.size(); a++) {
            for (int w = 0; w < 3; w++) call("alert", a, w);
        }
        for (int c = 0; c <= model.clock; c++) {
            for (int w = 0; w < 3; w++) call("known", c, w);
            call("compare", c, in(0, model.clock));
        }
        for (int w = 0; w <= 17; w++) call("count", w);
        for (int w = 0; w < 4; w++) call("trace", w);
        call("digest");
    }

    private void layers() throws Exception {
        boolean faster = random.nextBoolean();
        int n = in(1, 6);
        for (int i = 0; i < n; i++) {
            call("layer", in(1, 200), faster ? in(25 * i + 8, 25 * i + 35) : in(20, 160));
        }
        if (random.nextBoolean()) {
            call("table", in(20, 100), in(10, 75));
            call("doubt");
        }
    }

    /** True shakes: every station hears both phases of each, in noise, and much is asked of them. */
    private void quake() throws Exception {
        layers();
        int stations = in(3, 16);
        for (int s = 0; s < stations; s++) {
            call("station", in(-1000, 1000), in(-1000, 1000), in(0, 3));
            call("filter", s, in(0, 3), in(8, 16));
            call("picker", s, random.nextInt(3) == 0 ? 3 : in(0, 1), in(1, 3), in(4, 12), in(20, 50));
            call("term", s, in(-1000, 1000));
        }
        for (int i = 0; i < 8; i++) {
            call("wave", i, i % 2 == 0 ? in(1, 100) : in(-100, -1));
        }
        double[][] shakes = new double[in(1, 3)][];
        for (int i = 0; i < shakes.length; i++) {
            shakes[i] = new double[] {in(-1000, 1000), in(-1000, 1000), in(0, 100), in(20, 400)};
        }
        for (int s = 0; s < stations; s++) {
            record(s, shakes);
        }
        for (int s = 0; s < stations; s++) {
            for (int i = 0; i < 8; i++) call("read", s, 128);
        }
        for (int i = 0; i < 5; i++) {
            call("vote", in(200, 700), in(0, 200), in(8, 400), in(2, 6));
            for (int e = 0; e < model.events.size(); e++) {
                ask(e);
            }
            call("rule", in(2, 5), in(-100, 400));
            call("tick");
            if (random.nextInt(3) == 0) call("rework", in(0, stations - 1));
            if (random.nextInt(3) == 0) call("layer", in(1, 200), in(1, 160));
            call("swarms", in(0, 2000));
            call("digest");
        }
        for (int s = 0; s < stations; s++) {
            call("spectrum", s, in(0, 31), in(0, 16));
        }
        lookAtAll();
    }

    private void record(int s, double[][] shakes) throws Exception {
        int[] loud = new int[1024];
        for (double[] q : shakes) {
            for (int phase = 0; phase < 2; phase++) {
                int t = (int) (q[3] + model.arrival(s, phase, q[0], q[1], q[2]));
                for (int i = 0; i < 12 && t + i < 1024; i++) loud[t + i] = 2000 - 150 * i + 500 * phase;
            }
        }
        int kind = model.sites.get(s).kind;
        for (int b = 0; b < 32; b++) {
            call("lane", kind);
            for (int i = 0; i < 32; i++) {
                int t = b * 32 + i;
                call("raw", loud[t] == 0 ? (long) in(-20, 20) : (t % 2 == 0 ? loud[t] : -loud[t]) * 8L);
            }
            if (random.nextInt(60) != 0) {
                call("packet", s, b, kind, 32);
            }
        }
    }

    private void ask(int e) throws Exception {
        call("size", e);
        for (int k = 0; k < 3; k++) call("error", e, k);
        call("place", e, in(1, 20));
        for (int k = 0; k < 3; k++) call("error", e, k);
        for (int w = 0; w < 5; w++) call("eventAt", e, w);
        if (random.nextInt(3) == 0) {
            call("search", e, in(400, 1000), in(0, 75));
            for (int w = 0; w < 5; w++) call("eventAt", e, w);
            call("place", e, in(1, 20));
        }
        call("event", e, 3);
        call("event", e, 4);
    }

    /** Few blocks, read often, by pickers that fire at once: rooms get full, events come in numbers. */
    private void manyPicks() throws Exception {
        layers();
        int stations = in(2, 16);
        for (int s = 0; s < stations; s++) {
            call("station", in(-1000, 1000), in(-1000, 1000), in(0, 3));
            call("picker", s, in(0, 1), 1, 2, in(1, 20));
            for (int b = 0; b < in(2, 6); b++) {
                call("lane", model.sites.get(s).kind);
                for (int i = 0; i < 32; i++) call("raw", random.nextInt(4) == 0 ? (long) in(-3000, 3000) : 0L);
                call("packet", s, b, model.sites.get(s).kind, 32);
            }
        }
        int patience = 120;
        while (patience-- > 0 && !broken) {
            int s = in(0, stations - 1);
            call("read", s, in(1, 128));
            if (random.nextBoolean()) call("rework", s);
            call("vote", 1000, in(0, 600), in(0, 400), in(2, 4));
            if (random.nextBoolean()) call("vote", 1000, in(0, 600), in(0, 400), 2);
            if (random.nextInt(3) == 0) {
                call("rule", 2, in(-1000, 100));
                call("tick");
            }
            drawn("swarms");
            call("digest");
        }
        lookAtAll();
    }

    /** Long silence behind one beat, so that all recursions run down to the least numbers there are. */
    private void fading() throws Exception {
        int stations = 6;
        for (int s = 0; s < stations; s++) {
            call("station", 0, 0, 3);
            call("filter", s, in(0, 3), in(1, 16));
            call("picker", s, s % 4, in(1, 16), in(2, 4), in(1, 255));
        }
        for (int i = 0; i < 8; i++) {
            call("wave", i, i == 7 ? 0 : in(-2, 2));
        }
        for (int s = 0; s < stations; s++) {
            for (int b = 0; b < 32; b++) {
                call("lane", 3);
                if (b % 17 == 0) call("raw", (long) in(-3000, 3000));
                call("packet", s, b, 3, 32);
            }
            for (int i = 0; i < 1024; i++) {
                call("read", s, 1);
                call("now", s, 0);
                call("now", s, 1);
            }
            call("read", s, in(1, 128));
            call("skip", s);
        }
        lookAtAll();
    }

    /** A pick of phase 0 in each block, as skip() begins anew: candidates, events, alerts until no room is left. */
    private void fullRooms() throws Exception {
        layers();
        int stations = in(2, 16);
        for (int s = 0; s < stations; s++) {
            call("station", in(-1000, 1000), in(-1000, 1000), 1);
            call("picker", s, 0, 1, 2, 20);
        }
        int readyBlocks = Math.min(32, 416 / stations);
        for (int b = 0; b < readyBlocks; b++) {
            for (int s = 0; s < stations; s++) {
                call("lane", 1);
                call("swing", 4, 1, 0);
                call("raw", (long) in(500, 30000));
                call("packet", s, b, 1, 5);
                call("read", s, 5);
                call("skip", s);
            }
            if (random.nextInt(stations > 8 ? 5 : 2) > 0) {
                call("vote", 1000, in(0, 600), in(300, 400), 2);
            }
        }
        for (int i = 0; i < 80; i++) {
            call("vote", 1000, in(0, 600), in(100, 400), 2);
        }
        for (int i = 0; i < 30; i++) {
            call("rule", in(2, 3), in(0, 3) == 0 ? in(-1000, 1000) : in(200, 500));
            call("tick");
            if (random.nextInt(12) == 0) call("rework", in(0, stations - 1));
            call("swarms", in(0, 1500));
        }
        lookAtAll();
    }
}
