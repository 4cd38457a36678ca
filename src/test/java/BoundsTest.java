import java.util.function.Function;
import java.util.function.Supplier;

/**
 * Promises 2 to 46: every bound in brackets (the least and the greatest number that is taken, and the one
 * beyond each), each code that a promise names, its STATE and its ROOM, and the answers NONE. Behind each
 * refused call all is looked at: nothing has changed, but code() and count().
 */
public final class BoundsTest {
    private static final int UNKNOWN = Check.UNKNOWN, OUTSIDE = Check.OUTSIDE, STATE = Check.STATE, ROOM = Check.ROOM;
    private static final int NONE = Check.NONE, LOW = Check.LOW, HIGH = Check.HIGH;

    // whether the call in question answers a long, which tells 0 instead of a code
    private static boolean isLong = false;

    private interface Call {
        long of(Net n, int v);
    }

    private interface Plain {
        long of(Net n);
    }

    // ---- how a call is looked at

    private static int[] taken(Net n) {
        int[] counts = new int[7];
        counts[0] = n.count(7);
        for (int f = 1; f <= 6; f++) counts[f] = n.count(10 + f);
        return counts;
    }

    /** A refused call that takes so many work rows and meets a FAILURE (0: none). */
    private static void refused(String what, Supplier<Net> made, Function<Net, String> look, int code, int rows, int failure, Plain call) {
        Net n = made.get();
        int[] before = taken(n);
        long got = call.of(n);
        Check.due(what + ", its code", n.code(), code);
        Check.due(what + ", code() again", n.code(), code);
        Check.due(what, got, isLong ? 0 : code);
        int[] after = taken(n);
        Check.due(what + ", work rows taken", after[0] - before[0], rows);
        for (int f = 1; f <= 6; f++) Check.due(what + ", FAILURES " + f, after[f] - before[f], f == failure ? 1 : 0);
        Check.must(what + " changes nothing", look.apply(n).equals(look.apply(made.get())));
    }

    private static void refused(String what, int code, Plain call) {
        refused(what, Scene::make, Scene::look, code, 0, 0, call);
    }

    private static void fails(String what, Supplier<Net> made, int rows, int failure, Plain call) {
        refused(what, made, Scene::look, -10 - failure, rows, failure, call);
    }

    private static void promise(int number, boolean answersLong, String words) {
        Check.says("promise " + number + ", " + words);
        isLong = answersLong;
    }

    private static void beyond(String what, int code, Supplier<Net> made, Call call, int... values) {
        for (int v : values) refused(what + " " + v, made, Scene::look, code, 0, 0, n -> call.of(n, v));
    }

    /** What a call takes from low to high: both are taken, and what is beyond them is not. */
    private static void bounds(String what, int low, int high, int code, Supplier<Net> made, Call call) {
        for (int v : new int[] {low, high}) {
            Net n = made.get();
            long got = call.of(n, v);
            Check.due(what + " " + v + ", its code", n.code(), 0);
            Check.must(what + " " + v + " is no code", isLong || got >= 0 || got == NONE);
            Scene.look(n);
        }
        beyond(what, code, made, call, low - 1, high + 1, LOW, HIGH);
    }

    private static void bounds(String what, int low, int high, int code, Call call) {
        bounds(what, low, high, code, Scene::make, call);
    }

    private static Net emptied() {
        Net n = Scene.make();
        n.lane(1);
        return n;
    }

    /** STATION 5 has a row in its last BLOCK, too. */
    private static Net toTheEnd() {
        Net n = Scene.make();
        n.packet(5, 31, 3, 32);
        return n;
    }

    // ---- the lane

    private static void theLane() {
        promise(2, false, "lane: OUTSIDE");
        bounds("kind", 0, 3, OUTSIDE, (n, v) -> n.lane(v));
        promise(4, false, "noise: n (1 .. 32), size (0 .. 30000); OUTSIDE");
        bounds("n", 1, 32, OUTSIDE, BoundsTest::emptied, (n, v) -> n.noise(v, 5, 1));
        bounds("size", 0, 30000, OUTSIDE, BoundsTest::emptied, (n, v) -> n.noise(2, v, -1));
        promise(5, false, "swing: n SAMPLES more, size, less 0 .. 30000; OUTSIDE");
        bounds("n", 1, 32, OUTSIDE, BoundsTest::emptied, (n, v) -> n.swing(v, 5, 1));
        bounds("size", 0, 30000, OUTSIDE, BoundsTest::emptied, (n, v) -> n.swing(2, v, 1));
        bounds("less", 0, 30000, OUTSIDE, BoundsTest::emptied, (n, v) -> n.swing(32, 30000, v));
        promise(3, false, "raw: ROOM");
        Net n = new Net();
        for (int i = 1; i <= 32; i++) Check.due("raw", n.raw(i), i);
        Check.due("not refused", n.code(), 0);
        Supplier<Net> full = () -> { Net m = emptied(); m.swing(32, 9, 0); return m; };
        refused("a 33rd", full, Scene::look, ROOM, 0, 0, m -> m.raw(1));
        Supplier<Net> almost = () -> { Net m = emptied(); m.swing(31, 9, 0); return m; };
        promise(4, false, "noise: ROOM");
        Check.due("just room", almost.get().noise(1, 5, 1), 32);
        Check.due("just room", emptied().noise(32, 5, 1), 32);
        refused("one too many", almost, Scene::look, ROOM, 0, 0, m -> m.noise(2, 5, 1));
        refused("into a full one", full, Scene::look, ROOM, 0, 0, m -> m.noise(1, 5, 1));
        refused("outside ahead of room", full, Scene::look, OUTSIDE, 0, 0, m -> m.noise(33, 5, 1));
        promise(5, false, "swing: ROOM");
        Check.due("just room", almost.get().swing(1, 5, 1), 32);
        Check.due("just room", emptied().swing(32, 5, 1), 32);
        refused("one too many", almost, Scene::look, ROOM, 0, 0, m -> m.swing(2, 5, 1));
        refused("into a full one", full, Scene::look, ROOM, 0, 0, m -> m.swing(1, 5, 1));
        refused("outside ahead of room", full, Scene::look, OUTSIDE, 0, 0, m -> m.swing(1, 5, -1));
    }

    // ---- stations

    private static void theStations() {
        promise(6, false, "station: OUTSIDE: x, y (-1000 .. 1000), KIND");
        bounds("x", -1000, 1000, OUTSIDE, (n, v) -> n.station(v, 0, 0));
        bounds("y", -1000, 1000, OUTSIDE, (n, v) -> n.station(0, v, 0));
        bounds("kind", 0, 3, OUTSIDE, (n, v) -> n.station(0, 0, v));
        promise(6, false, "station: ROOM");
        Supplier<Net> fifteen = () -> { Net m = Scene.make(); for (int i = 6; i < 15; i++) m.station(i, i, 0); return m; };
        Check.due("the 16th", fifteen.get().station(0, 0, 0), 15);
        Supplier<Net> sixteen = () -> { Net m = fifteen.get(); m.station(1, 2, 3); return m; };
        refused("a 17th", sixteen, Scene::look, ROOM, 0, 0, m -> m.station(0, 0, 0));
        refused("outside ahead of room", sixteen, Scene::look, OUTSIDE, 0, 0, m -> m.station(0, 0, 4));
        promise(7, false, "calibrate: ZERO, UP, DOWN (each -1000 .. 1000); UNKNOWN; OUTSIDE");
        bounds("station", 0, 5, UNKNOWN, (n, v) -> n.calibrate(v, 1, 2, 3));
        bounds("zero", -1000, 1000, OUTSIDE, (n, v) -> n.calibrate(5, v, 2, 3));
        bounds("up", -1000, 1000, OUTSIDE, (n, v) -> n.calibrate(5, 1, v, 3));
        bounds("down", -1000, 1000, OUTSIDE, (n, v) -> n.calibrate(5, 1, 2, v));
        refused("unknown ahead of outside", UNKNOWN, n -> n.calibrate(6, 0, 0, 1001));
        promise(8, false, "filter: (0 .. 3), a (0 .. 16); UNKNOWN; OUTSIDE");
        bounds("station", 0, 5, UNKNOWN, (n, v) -> n.filter(v, 1, 5));
        bounds("sort", 0, 3, OUTSIDE, (n, v) -> n.filter(5, v, 5));
        bounds("a", 0, 16, OUTSIDE, (n, v) -> n.filter(5, 3, v));
        refused("unknown ahead of outside", UNKNOWN, n -> n.filter(6, 4, 0));
        promise(9, false, "picker: (0 .. 3), S (1 .. 16), L (2 .. 64), b (1 .. 255); UNKNOWN; OUTSIDE");
        bounds("station", 0, 5, UNKNOWN, (n, v) -> n.picker(v, 1, 2, 4, 20));
        bounds("sort", 0, 3, OUTSIDE, (n, v) -> n.picker(5, v, 2, 4, 20));
        bounds("S", 1, 16, OUTSIDE, (n, v) -> n.picker(5, 3, v, 4, 20));
        bounds("L", 2, 64, OUTSIDE, (n, v) -> n.picker(5, 3, 2, v, 20));
        bounds("b", 1, 255, OUTSIDE, (n, v) -> n.picker(5, 3, 2, 4, v));
        refused("unknown ahead of outside", UNKNOWN, n -> n.picker(6, 0, 0, 4, 20));
        promise(10, false, "wave: W i becomes v (-100 .. 100); OUTSIDE");
        bounds("i", 0, 7, OUTSIDE, (n, v) -> { long was = n.wave(v, 50); return was < 0 ? n.code() : was; });
        bounds("v", -100, 100, OUTSIDE, (n, v) -> n.wave(0, v));
        promise(11, false, "term: (-1000 .. 1000); UNKNOWN; OUTSIDE");
        bounds("station", 0, 5, UNKNOWN, (n, v) -> { long was = n.term(v, 7); return was < 0 ? n.code() : was; });
        bounds("v", -1000, 1000, OUTSIDE, (n, v) -> n.term(2, v));
        refused("unknown ahead of outside", UNKNOWN, n -> n.term(6, 1001));
    }

    private static void theRows() {
        promise(12, false, "packet: UNKNOWN; OUTSIDE: KIND, n above 32");
        bounds("station", 0, 5, UNKNOWN, (n, v) -> n.packet(v, 7, 3, 9));
        bounds("block", 0, 31, UNKNOWN, BoundsTest::withoutRows, (n, v) -> n.packet(6, v, 3, 9));
        for (int kind : new int[] {0, 3}) {
            Net n = Scene.make();
            n.lane(kind);
            Check.due("kind " + kind, n.packet(5, 7, kind, 2), 2);
        }
        beyond("kind", OUTSIDE, Scene::make, (n, v) -> n.packet(5, 7, v, 9), -1, 4, LOW, HIGH);
        beyond("n", OUTSIDE, Scene::make, (n, v) -> n.packet(5, 7, 3, v), 33, HIGH);
        Check.due("n 32", Scene.make().packet(5, 7, 3, 32), 32);
        refused("unknown ahead of outside", UNKNOWN, n -> n.packet(6, 7, 4, 33));
        refused("unknown ahead of outside", UNKNOWN, n -> n.packet(5, 32, 4, 33));
        promise(12, false, "packet: FAILURES 4, 5, 6");
        fails("a size below 0", Scene::make, 0, 4, n -> n.packet(5, 7, 3, -1));
        fails("the least size", Scene::make, 0, 4, n -> n.packet(5, 7, 3, LOW));
        fails("another kind", Scene::make, 0, 5, n -> n.packet(5, 7, 0, 32));
        fails("another kind, of one alike", Scene::make, 0, 5, n -> n.packet(5, 7, 2, 32));
        fails("one place too few", Scene::make, 0, 6, n -> n.packet(5, 7, 3, 2));
        fails("no place at all", Scene::make, 0, 6, n -> n.packet(5, 7, 3, 0));
        Check.due("just so many places", Scene.make().packet(5, 7, 3, 3), 3);
        refused("outside ahead of a failure", OUTSIDE, n -> n.packet(5, 7, 4, -1));
        refused("unknown ahead of a failure", UNKNOWN, n -> n.packet(5, -1, 0, -1));
        promise(12, false, "packet: STATE (behind these)");
        refused("there is a row of as many", STATE, n -> n.packet(5, 0, 3, 32));
        refused("there is a row of another kind", STATE, n -> n.packet(0, 0, 3, 32));
        fails("a size below 0 ahead of state", Scene::make, 0, 4, n -> n.packet(5, 0, 3, -1));
        fails("another kind ahead of state", Scene::make, 0, 5, n -> n.packet(5, 0, 1, 32));
        fails("too few places ahead of state", Scene::make, 0, 6, n -> n.packet(5, 0, 3, 2));
        promise(13, true, "ground: SAMPLE t (0 .. 1023); UNKNOWN; OUTSIDE; FAILURES");
        bounds("station", 0, 5, UNKNOWN, (n, v) -> n.ground(v, 3));
        bounds("t", 0, 1023, OUTSIDE, BoundsTest::toTheEnd, (n, v) -> n.ground(5, v));
        refused("unknown ahead of outside", UNKNOWN, n -> n.ground(6, 1024));
        fails("nothing", Scene::make, 0, 1, n -> n.ground(5, 1023));
        fails("kind", BoundsTest::withOddRows, 0, 2, n -> n.ground(5, 10 * 32));
        fails("kind, at a place that it has not", BoundsTest::withOddRows, 0, 2, n -> n.ground(5, 10 * 32 + 8));
        fails("short", BoundsTest::withOddRows, 0, 3, n -> n.ground(5, 11 * 32 + 9));
        Check.must("the last place that it has", withOddRows().ground(5, 11 * 32 + 8) != 0L);
        promise(14, true, "spectrum: k (0 .. 16); UNKNOWN; OUTSIDE; FAILURES, of the first SAMPLE that has one");
        bounds("station", 0, 5, UNKNOWN, (n, v) -> n.spectrum(v, 0, 3));
        bounds("block", 0, 31, UNKNOWN, BoundsTest::toTheEnd, (n, v) -> n.spectrum(5, v, 3));
        bounds("k", 0, 16, OUTSIDE, (n, v) -> n.spectrum(5, 0, v));
        refused("unknown ahead of outside", UNKNOWN, n -> n.spectrum(6, 0, 17));
        refused("unknown ahead of outside", UNKNOWN, n -> n.spectrum(5, 32, 17));
        fails("nothing", Scene::make, 1, 1, n -> n.spectrum(5, 31, 3));
        fails("kind", BoundsTest::withOddRows, 1, 2, n -> n.spectrum(5, 10, 3));
        fails("short", BoundsTest::withOddRows, 1, 3, n -> n.spectrum(5, 11, 3));
    }

    /** STATION 6 has no row. */
    private static Net withoutRows() {
        Net n = Scene.make();
        n.station(0, 0, 3);
        return n;
    }

    /** STATION 5 has a row of INTS in BLOCK 10 and one with nine SAMPLES in BLOCK 11. */
    private static Net withOddRows() {
        Net n = Scene.make();
        n.lane(1);
        n.noise(8, 50, 3);
        n.packet(5, 10, 1, 8);
        n.lane(3);
        n.swing(9, 500, 1);
        n.packet(5, 11, 3, 9);
        return n;
    }

    // ---- reading on

    private static void readingOn() {
        promise(15, false, "read: n times (1 .. 128); UNKNOWN; OUTSIDE");
        bounds("station", 0, 5, UNKNOWN, (n, v) -> n.read(v, 3));
        bounds("n", 1, 128, OUTSIDE, (n, v) -> n.read(5, v));
        refused("unknown ahead of outside", UNKNOWN, n -> n.read(6, 0));
        promise(15, false, "read: ROOM: there are more than 336 PICKS (ever)");
        Net n = manyPicks(336);
        Check.due("336 are not too many", n.read(0, 128), 0);
        Check.due("64 more by one read, 400 in all", n.count(1), 400);
        Check.due("the last one", n.pick(399, 1), 159);
        Check.refuses("none more", n, ROOM, m -> m.read(0, 1));
        refused("337 are", () -> manyPicks(337), Scene::glance, ROOM, 0, 0, m -> m.read(0, 1));
        refused("a failure comes behind that", () -> manyPicks(337), Scene::glance, ROOM, 0, 0, m -> m.read(2, 1));
        refused("outside ahead of room", () -> manyPicks(337), Scene::glance, OUTSIDE, 0, 0, m -> m.read(0, 129));
        Net some = manyPicks(336);
        some.rework(0);
        some.rework(1);
        Check.due("all are taken back", some.status(0, 9) + some.status(1, 9), 0);
        Check.due("not yet too many", some.read(0, 4), 0);
        Check.due("ever", some.count(1), 337);
        Check.refuses("those taken back count, too", some, ROOM, m -> m.read(0, 1));
        promise(16, false, "skip: UNKNOWN; STATE: PLACE is 1024");
        bounds("station", 0, 5, UNKNOWN, (m, v) -> m.skip(v));
        Check.due("from the last BLOCK", atEnd(false).skip(5), 1024);
        refused("at the end", () -> atEnd(true), Scene::look, STATE, 0, 0, m -> m.skip(5));
        promise(17, false, "rework: UNKNOWN");
        bounds("station", 0, 5, UNKNOWN, (m, v) -> m.rework(v));
        promise(18, false, "status: UNKNOWN; OUTSIDE (x, y may be any of theirs)");
        bounds("station", 0, 5, UNKNOWN, (m, v) -> m.status(v, 0));
        bounds("what", 0, 9, OUTSIDE, (m, v) -> m.status(0, v));
        refused("unknown ahead of outside", UNKNOWN, m -> m.status(6, 10));
        Net codes = new Net();
        codes.station(UNKNOWN, OUTSIDE, 0);
        codes.station(STATE, NONE, 0);
        Check.due("x", codes.status(0, 5), UNKNOWN);
        Check.due("not refused", codes.code(), 0);
        Check.due("y", codes.status(0, 6), OUTSIDE);
        Check.due("not refused", codes.code(), 0);
        Check.due("x", codes.status(1, 5), STATE);
        Check.due("y", codes.status(1, 6), NONE);
        promise(20, false, "trace: OUTSIDE");
        bounds("sort", 0, 3, OUTSIDE, (m, v) -> m.trace(v));
        promise(19, true, "now: UNKNOWN; OUTSIDE");
        bounds("station", 0, 5, UNKNOWN, (m, v) -> m.now(v, 0));
        bounds("what", 0, 1, OUTSIDE, (m, v) -> m.now(5, v));
        refused("unknown ahead of outside", UNKNOWN, m -> m.now(6, 2));
    }

    private static Net atEnd(boolean behind) {
        Net n = Scene.make();
        for (int b = 1; b < 32; b++) n.skip(5);
        if (behind) n.skip(5);
        return n;
    }

    /** Two STATIONS whose every second SAMPLE brings a PICK; STATION 0 is at 32 with its picker going. */
    static Net manyPicks(int wanted) {
        Net n = new Net();
        for (int s = 0; s < 2; s++) {
            n.station(0, 0, 1);
            n.calibrate(s, 500, 1, 1);
            n.picker(s, 0, 1, 2, 16);
        }
        n.station(0, 0, 1);
        n.lane(1);
        for (int b = 0; b < 21; b++) beats(n, 1, b);
        for (int b = 0; b < 5; b++) beats(n, 0, b);
        n.read(0, 32);
        for (int i = 0; i < 100 && n.count(1) < wanted; i++) {
            n.read(1, Math.max(2, Math.min(128, 2 * (wanted - n.count(1)))));
        }
        Check.due("picks of the test", n.count(1), wanted);
        return n;
    }

    // 500, -500, .. less 500: 0 and -1000 in turn
    private static void beats(Net n, int station, int block) {
        n.swing(32, 500, 0);
        n.packet(station, block, 1, 32);
    }

    // ---- picks, the clock

    private static void picksAndClock() {
        promise(21, false, "pick: UNKNOWN; OUTSIDE; the EVENT of which it is a member (NONE), until (NONE)");
        bounds("pick", 0, 7, UNKNOWN, (n, v) -> n.pick(v, 0));
        bounds("what", 0, 6, OUTSIDE, (n, v) -> n.pick(2, v));
        refused("unknown ahead of outside", UNKNOWN, n -> n.pick(8, 7));
        Net n = Scene.make();
        Check.due("a member", n.pick(2, 4), 1);
        Check.due("a member of none", n.pick(7, 4), NONE);
        Check.due("NONE is no refusal", n.code(), 0);
        Check.due("known", n.pick(2, 6), NONE);
        Check.due("NONE is no refusal", n.code(), 0);
        Check.due("taken back", n.pick(0, 6), 1);
        promise(22, true, "amplitude: UNKNOWN");
        bounds("pick", 0, 7, UNKNOWN, (m, v) -> m.amplitude(v));
        promise(24, false, "rule: STATIONS (2 .. 16), a SIZE (-1000 .. 1000); OUTSIDE");
        bounds("stations", 2, 16, OUTSIDE, (m, v) -> m.rule(v, 5));
        bounds("size", -1000, 1000, OUTSIDE, (m, v) -> m.rule(3, v));
        promise(25, false, "alert: UNKNOWN; OUTSIDE; until (NONE)");
        bounds("alert", 0, 1, UNKNOWN, (m, v) -> m.alert(v, 0));
        bounds("what", 0, 2, OUTSIDE, (m, v) -> m.alert(0, v));
        refused("unknown ahead of outside", UNKNOWN, m -> m.alert(2, 3));
        Check.due("taken back", n.alert(0, 2), 2);
        Check.due("known", n.alert(1, 2), NONE);
        Check.due("NONE is no refusal", n.code(), 0);
    }

    // ---- times

    private static Net fast() {
        Net n = new Net();
        for (int i = 0; i < 6; i++) n.layer(20, 20 + 28 * i);
        n.table(50, 30);
        return n;
    }

    private static void theTimes() {
        promise(26, false, "layer: thick (1 .. 200), a SPEED told (1 .. 160); OUTSIDE");
        bounds("thick", 1, 200, OUTSIDE, (n, v) -> n.layer(v, 77));
        bounds("speed", 1, 160, OUTSIDE, (n, v) -> n.layer(77, v));
        promise(26, false, "layer: ROOM");
        Supplier<Net> five = () -> { Net m = Scene.make(); m.layer(5, 5); m.layer(6, 6); m.table(9, 9); return m; };
        Check.due("the 6th", five.get().layer(7, 7), 5);
        Supplier<Net> six = () -> { Net m = five.get(); m.layer(7, 7); m.table(9, 9); return m; };
        refused("a 7th", six, Scene::look, ROOM, 0, 0, m -> m.layer(7, 7));
        refused("outside ahead of room", six, Scene::look, OUTSIDE, 0, 0, m -> m.layer(0, 7));
        promise(28, false, "table: steps (1 .. 100, other 1 .. 75); OUTSIDE; STATE: no LAYERS");
        bounds("step", 1, 100, OUTSIDE, (n, v) -> n.table(v, 7));
        bounds("other", 1, 75, OUTSIDE, (n, v) -> n.table(7, v));
        refused("no layers", Net::new, Scene::glance, STATE, 0, 0, n -> n.table(1, 1));
        refused("outside ahead of state", Net::new, Scene::glance, OUTSIDE, 0, 0, n -> n.table(1, 76));
        promise(27, true, "time: BORDER way - 2 (2 .. 7), a distance (0 .. 4000) and a depth (0 .. 600); OUTSIDE");
        for (int v : new int[] {0, 7}) {
            Net n = fast();
            Check.must("a time", n.time(v, 4000, 3) != 0L);
            Check.due("not refused", n.code(), 0);
        }
        for (int v : new int[] {-1, 8, LOW, HIGH}) {
            refused("way " + v, BoundsTest::fast, Scene::glance, OUTSIDE, 0, 0, n -> n.time(v, 4000, 3));
        }
        bounds("distance", 0, 4000, OUTSIDE, (n, v) -> n.time(0, v, 3));
        bounds("depth", 0, 600, OUTSIDE, (n, v) -> n.time(1, 3, v));
        promise(27, true, "time: STATE: no LAYERS, or no such BORDER is there");
        refused("no layers", Net::new, Scene::glance, STATE, 0, 0, n -> n.time(0, 1, 1));
        refused("no layers", Net::new, Scene::glance, STATE, 0, 0, n -> n.time(1, 1, 1));
        refused("outside ahead of state", Net::new, Scene::glance, OUTSIDE, 0, 0, n -> n.time(0, 1, 601));
        refused("border 0", BoundsTest::fast, Scene::glance, STATE, 0, 0, n -> n.time(2, 4000, 3));
        refused("no such layer", STATE, n -> n.time(5, 4000, 3));
        refused("no such layer", STATE, n -> n.time(7, 4000, 3));
        promise(29, true, "tabled: in eighths (0 .. 32000, 0 .. 4800); OUTSIDE; STATE: no LAYERS");
        bounds("distance", 0, 32000, OUTSIDE, (n, v) -> n.tabled(v, 3));
        bounds("depth", 0, 4800, OUTSIDE, (n, v) -> n.tabled(3, v));
        refused("no layers", Net::new, Scene::glance, STATE, 0, 0, n -> n.tabled(1, 1));
        refused("outside ahead of state", Net::new, Scene::glance, OUTSIDE, 0, 0, n -> n.tabled(1, 4801));
        promise(30, true, "doubt: STATE: no TABLE");
        refused("no layers", Net::new, Scene::glance, STATE, 0, 0, n -> n.doubt());
        Supplier<Net> noTable = () -> { Net m = Scene.make(); m.layer(4, 4); return m; };
        refused("a layer more", noTable, Scene::look, STATE, 0, 0, n -> n.doubt());
        Net n = noTable.get();
        n.table(5, 5);
        Check.must("a doubt", n.doubt() != 0L);
    }

    // ---- events

    private static void theEvents() {
        promise(31, false, "vote: step 200 .. 1000, depth 0 .. 600, tolerance 0 .. 400, LEAST 2 .. 16; OUTSIDE");
        bounds("step", 200, 1000, OUTSIDE, (n, v) -> n.vote(v, 10, 50, 3));
        bounds("depth", 0, 600, OUTSIDE, (n, v) -> n.vote(1000, v, 50, 3));
        bounds("tolerance", 0, 400, OUTSIDE, (n, v) -> n.vote(1000, 10, v, 3));
        bounds("least", 2, 16, OUTSIDE, (n, v) -> n.vote(1000, 10, 50, v));
        promise(31, false, "vote: the EVENT that comes; NONE");
        Net n = Scene.make();
        Check.due("too few", n.vote(1000, 10, 50, 16), NONE);
        Check.due("NONE is no refusal", n.code(), 0);
        Check.due("no event", n.count(2), 2);
        promise(31, false, "vote: STATE: no LAYERS");
        refused("no layers", Net::new, Scene::glance, STATE, 0, 0, m -> m.vote(1000, 0, 0, 2));
        refused("outside ahead of state", Net::new, Scene::glance, OUTSIDE, 0, 0, m -> m.vote(1000, 0, 0, 17));
        promise(32, false, "event: UNKNOWN; OUTSIDE; until (NONE), NONE both ahead of a place(), its KNOWN ALERT (NONE)");
        bounds("event", 0, 1, UNKNOWN, (m, v) -> m.event(v, 0));
        bounds("what", 0, 6, OUTSIDE, (m, v) -> m.event(1, v));
        refused("unknown ahead of outside", UNKNOWN, m -> m.event(2, 7));
        Check.due("taken back at", n.event(0, 2), 1);
        Check.due("known", n.event(1, 2), NONE);
        Check.due("NONE is no refusal", n.code(), 0);
        Check.due("an alert", n.event(1, 6), 1);
        Check.due("no alert", n.event(0, 6), NONE);
        Check.due("NONE is no refusal", n.code(), 0);
        Check.due("by what it was placed", n.event(1, 3), 0);
        Check.due("steps", n.event(1, 4), 2);
        Net fresh = Picking.shaken();
        fresh.vote(1000, 0, 0, 4);
        for (int what : new int[] {2, 3, 4, 6}) {
            Check.due("of one that just came, " + what, fresh.event(0, what), NONE);
            Check.due("NONE is no refusal", fresh.code(), 0);
        }
        promise(34, false, "member: UNKNOWN");
        bounds("k", 0, 4, UNKNOWN, (m, v) -> m.member(1, v));
        beyond("event", UNKNOWN, Scene::make, (m, v) -> m.member(v, 0), -1, 0, 2, LOW, HIGH);
        promise(36, false, "place: steps (1 .. 20); UNKNOWN; OUTSIDE; STATE: it is TAKEN BACK");
        bounds("steps", 1, 20, OUTSIDE, (m, v) -> m.place(1, v));
        beyond("event", UNKNOWN, Scene::make, (m, v) -> m.place(v, 5), -1, 2, LOW, HIGH);
        refused("unknown ahead of outside", UNKNOWN, m -> m.place(2, 0));
        refused("taken back", STATE, m -> m.place(0, 1));
        refused("outside ahead of state", OUTSIDE, m -> m.place(0, 21));
        promise(37, false, "search: step 400 .. 1000, depth step 0 .. 75; UNKNOWN; OUTSIDE; STATE: it is TAKEN BACK");
        bounds("step", 400, 1000, OUTSIDE, (m, v) -> m.search(1, v, 10));
        bounds("depth step", 0, 75, OUTSIDE, (m, v) -> m.search(1, 1000, v));
        beyond("event", UNKNOWN, Scene::make, (m, v) -> m.search(v, 1000, 5), -1, 2, LOW, HIGH);
        refused("unknown ahead of outside", UNKNOWN, m -> m.search(2, 399, 0));
        refused("taken back", STATE, m -> m.search(0, 400, 0));
        refused("outside ahead of state", OUTSIDE, m -> m.search(0, 400, 76));
        promise(40, false, "swarms: bound (0 .. 100000); OUTSIDE");
        bounds("bound", 0, 100000, OUTSIDE, (m, v) -> m.swarms(v));
        promise(41, false, "swarm: NONE: it was in none; UNKNOWN");
        bounds("event", 0, 1, UNKNOWN, (m, v) -> m.swarm(v));
        Check.due("in none", n.swarm(0), NONE);
        Check.due("NONE is no refusal", n.code(), 0);
        Check.due("in its own", n.swarm(1), 1);
    }

    private static void whatEventsTell() {
        promise(33, true, "eventAt: UNKNOWN; OUTSIDE");
        bounds("event", 0, 1, UNKNOWN, (n, v) -> n.eventAt(v, 0));
        bounds("what", 0, 4, OUTSIDE, (n, v) -> n.eventAt(1, v));
        refused("unknown ahead of outside", UNKNOWN, n -> n.eventAt(2, 5));
        promise(35, true, "residual: UNKNOWN");
        bounds("k", 0, 4, UNKNOWN, (n, v) -> n.residual(1, v));
        beyond("event", UNKNOWN, Scene::make, (n, v) -> n.residual(v, 0), -1, 0, 2, LOW, HIGH);
        promise(38, true, "error: (k 0 .. 2); UNKNOWN; OUTSIDE; STATE: it is TAKEN BACK, has fewer than 4 members");
        bounds("k", 0, 2, OUTSIDE, (n, v) -> n.error(1, v));
        beyond("event", UNKNOWN, Scene::make, (n, v) -> n.error(v, 1), -1, 2, LOW, HIGH);
        refused("unknown ahead of outside", UNKNOWN, n -> n.error(2, 3));
        refused("taken back", STATE, n -> n.error(0, 0));
        refused("outside ahead of state", OUTSIDE, n -> n.error(0, 3));
        Supplier<Net> four = () -> { Net m = Scene.make(); m.rework(2); return m; };
        Check.due("members", four.get().event(1, 0), 4);
        Check.must("four are enough", four.get().error(1, 0) != 0L);
        Supplier<Net> three = () -> { Net m = four.get(); m.rework(3); return m; };
        Check.due("members", three.get().event(1, 0), 3);
        refused("three are not", three, Scene::look, STATE, 0, 0, n -> n.error(1, 0));
        promise(39, true, "size: UNKNOWN; STATE: there is none");
        Check.must("a size", Scene.make().size(1) != 0L);
        beyond("event", UNKNOWN, Scene::make, (n, v) -> n.size(v), -1, 2, LOW, HIGH);
        refused("there is none", Scene::make, Scene::look, STATE, 1, 0, n -> n.size(0));
    }

    // ---- as known when

    private static void asKnown() {
        promise(42, false, "known: (0 .. THE CLOCK); OUTSIDE");
        bounds("c", 0, 3, OUTSIDE, (n, v) -> n.known(v, 0));
        bounds("what", 0, 2, OUTSIDE, (n, v) -> n.known(3, v));
        promise(43, false, "compare: likewise; OUTSIDE");
        bounds("c", 0, 3, OUTSIDE, (n, v) -> n.compare(v, 1));
        bounds("d", 0, 3, OUTSIDE, (n, v) -> n.compare(1, v));
        promise(45, false, "count: 0 .. 9; 11 .. 16; OUTSIDE");
        bounds("what", 0, 16, OUTSIDE, (n, v) -> n.count(v));
        for (int v : new int[] {9, 11}) Check.must("count", Scene.make().count(v) > 0);
        beyond("what", OUTSIDE, Scene::make, (n, v) -> n.count(v), 10);
    }

    public static void main(String[] args) {
        theLane();
        theStations();
        theRows();
        readingOn();
        picksAndClock();
        theTimes();
        theEvents();
        whatEventsTell();
        asKnown();
        Check.end("bounds");
    }
}
