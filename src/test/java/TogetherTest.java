import java.util.ArrayList;
import java.util.List;
import java.util.function.Consumer;
import java.util.function.ToLongFunction;

/** Sentences of the document that speak of several promises at once, by runs that must come to the same. */
public final class TogetherTest {

    // ---- what may not change anything, behind each single call of a run

    /** Calls that are refused, or tell a FAILURE, whatever was called before. */
    private static List<ToLongFunction<Net>> refusals() {
        List<ToLongFunction<Net>> all = new ArrayList<>();
        all.add(n -> n.lane(4));
        all.add(n -> n.noise(33, 5, 1));
        all.add(n -> n.swing(1, 5, 30001));
        all.add(n -> n.station(0, 1001, 0));
        all.add(n -> n.calibrate(5, 1, 2, 1001));
        all.add(n -> n.filter(5, 1, 17));
        all.add(n -> n.picker(5, 1, 2, 8, 256));
        all.add(n -> n.wave(0, 101));
        all.add(n -> n.term(0, 1001));
        all.add(n -> n.packet(0, 31, 0, -1));
        all.add(n -> n.packet(5, 31, 4, 32));
        all.add(n -> n.packet(0, 32, 0, 32));
        all.add(n -> n.ground(0, 1023));
        all.add(n -> n.spectrum(0, 31, 1));
        all.add(n -> n.read(5, 129));
        all.add(n -> n.read(6, 1));
        all.add(n -> n.skip(6));
        all.add(n -> n.rework(6));
        all.add(n -> n.rule(17, 0));
        all.add(n -> n.layer(201, 5));
        all.add(n -> n.table(101, 5));
        all.add(n -> n.vote(199, 0, 400, 2));
        all.add(n -> n.place(1, 21));
        all.add(n -> n.search(1, 399, 5));
        all.add(n -> n.swarms(-1));
        all.add(n -> n.compare(0, 100));
        all.add(n -> n.count(10));
        return all;
    }

    /** Calls that only tell something. */
    private static List<ToLongFunction<Net>> questions() {
        List<ToLongFunction<Net>> all = new ArrayList<>();
        all.add(n -> n.ground(5, 3));
        all.add(n -> n.spectrum(5, 0, 3));
        all.add(n -> n.status(5, 1));
        all.add(n -> n.now(5, 0));
        all.add(n -> n.now(5, 1));
        all.add(n -> n.trace(2));
        all.add(n -> n.pick(0, 3));
        all.add(n -> n.amplitude(0));
        all.add(n -> n.alert(0, 0));
        all.add(n -> n.time(0, 4000, 600));
        all.add(n -> n.time(3, 50, 5));
        all.add(n -> n.tabled(31000, 4000));
        all.add(n -> n.doubt());
        all.add(n -> n.event(1, 0));
        all.add(n -> n.eventAt(0, 4));
        all.add(n -> n.eventAt(1, 4));
        all.add(n -> n.member(1, 0));
        all.add(n -> n.residual(1, 0));
        all.add(n -> n.error(1, 0));
        all.add(n -> n.size(1));
        all.add(n -> n.swarm(1));
        all.add(n -> n.known(0, 0));
        all.add(n -> n.compare(0, 0));
        all.add(n -> n.digest());
        all.add(n -> n.count(0));
        all.add(n -> n.code());
        return all;
    }

    private static void behindAllThese() {
        Check.says("Behind all these nothing has changed, but code() and count()");
        String want = Scene.look(Scene.make());
        List<ToLongFunction<Net>> all = refusals();
        for (int i = 0; i < all.size(); i++) {
            ToLongFunction<Net> one = all.get(i);
            int number = i;
            String got = Scene.look(Scene.make(n -> {
                long answer = one.applyAsLong(n);
                int code = n.code();
                Check.must("refusal " + number + " is refused", code < 0 && (answer == code || answer == 0L));
            }));
            Check.must("refusal " + number + " behind each call changes nothing", got.equals(want));
        }
        Check.says("what only tells something changes nothing");
        all = questions();
        for (int i = 0; i < all.size(); i++) {
            ToLongFunction<Net> one = all.get(i);
            String got = Scene.look(Scene.make(n -> one.applyAsLong(n)));
            Check.must("question " + i + " behind each call changes nothing", got.equals(want));
        }
    }

    // ---- reading on

    private static Net traces(int picker, int filter) {
        Net n = new Net();
        for (int i = 0; i < 8; i++) n.wave(i, (i % 2 == 0 ? 1 : -1) * (i + 2));
        n.station(0, 0, 2);
        n.picker(0, picker, 2, 5, 24);
        n.filter(0, filter, 13);
        n.lane(2);
        for (int b = 0; b < 8; b++) {
            n.noise(9, 40, b);
            n.raw(Long.MIN_VALUE);
            n.swing(11, 3000 * b, 17 * b);
            n.noise(11, 9, 100 + b);
            n.packet(0, b, 2, 32);
        }
        return n;
    }

    private static String told(Net n, int from, int pickFrom) {
        StringBuilder b = new StringBuilder();
        for (int w : new int[] {0, 1, 4}) b.append(n.status(0, w)).append(' ');
        b.append(n.now(0, 0)).append(' ').append(n.now(0, 1)).append(' ');
        for (int p = pickFrom; p < n.count(1); p++) {
            if (n.pick(p, 1) < from) continue;
            for (int w = 1; w < 4; w++) b.append(n.pick(p, w)).append(' ');
            b.append(n.amplitude(p)).append(' ');
        }
        return b.toString();
    }

    private static void inPieces() {
        Check.says("read: It STEPS n times: by however many calls");
        for (int picker = 0; picker < 4; picker++) {
            Net whole = traces(picker, picker), pieces = traces(picker, picker);
            whole.read(0, 128);
            for (int done = 0, i = 0; done < 128; i++) {
                int n = Math.min(128 - done, 1 + i % 7);
                pieces.read(0, n);
                done += n;
            }
            Check.must("picks came", whole.count(1) > 2);
            Check.must("the same by pieces, picker " + picker, told(whole, 0, 0).equals(told(pieces, 0, 0)));
            for (int w = 0; w < 4; w++) Check.due("trace " + w, pieces.trace(w), whole.trace(w));
            Check.due("not fit", pieces.status(0, 2), 4);
        }
    }

    private static void anew() {
        Check.says("BEGUN ANEW at first, by skip(), rework(), calibrate(), filter() and picker(): as if it read its first SAMPLE");
        for (int picker = 0; picker < 4; picker++) {
            int sort = picker;
            List<Consumer<Net>> ways = new ArrayList<>();
            ways.add(n -> n.calibrate(0, 0, 1, 1));
            ways.add(n -> n.filter(0, sort, 13));
            ways.add(n -> n.picker(0, sort, 2, 5, 24));
            // a net that has read nothing before SAMPLE 96
            Net late = traces(picker, picker);
            for (int i = 0; i < 3; i++) late.skip(0);
            late.read(0, 128);
            String want = told(late, 96, 0);
            Check.must("picks came", late.count(1) > 1);
            for (int i = 0; i < ways.size(); i++) {
                Net n = traces(picker, picker);
                n.read(0, 96);
                ways.get(i).accept(n);
                int before = n.count(1);
                n.read(0, 128);
                Check.must("begun anew by way " + i + ", picker " + picker, told(n, 96, before).equals(want));
            }
            Net skipped = traces(picker, picker);
            skipped.read(0, 75);
            skipped.skip(0);
            int before = skipped.count(1);
            skipped.read(0, 128);
            Check.must("begun anew by skip, picker " + picker, told(skipped, 96, before).equals(want));
            Net again = traces(picker, picker), once = traces(picker, picker);
            again.read(0, 128);
            before = again.count(1);
            Check.due("taken back", again.rework(0), before);
            again.read(0, 77);
            once.read(0, 77);
            Check.must("begun anew by rework, picker " + picker, told(again, 0, before).equals(told(once, 0, 0)));
        }
    }

    private static void alsoForWhatWasRead() {
        Check.says("wave: also for what was READ");
        for (int picker = 2; picker < 4; picker++) {
            Net early = traces(picker, 0), late = traces(picker, 0);
            for (int i = 0; i < 8; i++) early.wave(i, 30 - 7 * i);
            early.read(0, 76);
            late.read(0, 76);
            long before = late.now(0, 1);
            int traced = late.trace(2), picks = late.count(1);
            for (int i = 0; i < 8; i++) late.wave(i, 30 - 7 * i);
            Check.due("the RATE as it is now", late.now(0, 1), early.now(0, 1));
            Check.must("it was another, picker " + picker, before != late.now(0, 1));
            Check.due("no body was done", late.trace(2), traced);
            Check.due("no pick came", late.count(1), picks);
        }
        // the step behind it takes the new wave over the seven y that were READ ahead of it
        Net n = new Net();
        n.station(0, 0, 1);
        n.picker(0, 2, 1, 2, 255);
        n.lane(1);
        for (int i = 1; i <= 8; i++) n.raw(i);
        n.packet(0, 0, 1, 8);
        n.read(0, 7);
        for (int i = 0; i < 8; i++) n.wave(i, i + 1);
        Check.due("seven are too few", n.now(0, 1), 0L);
        n.read(0, 1);
        Check.due("just alike", n.now(0, 1), 16.0);
        Check.due("a pick, as the bound is 15.9375", n.count(1), 1);
        n.wave(7, -100);
        Check.must("another RATE", Check.number(n.now(0, 1)) < 0.0);
        Check.due("the pick stays what it was", n.pick(0, 3), 1);
        Check.due("not armed before the next step", n.status(0, 4), 0);
    }

    // ---- times

    private static String byArrivals(Net n) {
        StringBuilder b = new StringBuilder();
        for (int k = 0; k < n.event(0, 0); k++) b.append(n.residual(0, k)).append(' ');
        b.append(n.eventAt(0, 4)).append(' ').append(n.error(0, 0)).append(' ').append(n.error(0, 2)).append(' ');
        return b.toString();
    }

    private static String byMore(Net n) {
        StringBuilder b = new StringBuilder(byArrivals(n));
        b.append(n.place(0, 4)).append(' ').append(n.event(0, 4)).append(' ').append(byArrivals(n));
        for (int w = 0; w < 4; w++) b.append(n.eventAt(0, w)).append(' ');
        b.append(n.search(0, 500, 9)).append(' ').append(byArrivals(n));
        for (int w = 0; w < 4; w++) b.append(n.eventAt(0, w)).append(' ');
        return b.append(n.size(0)).toString();
    }

    private static void asTheyAreNow() {
        Check.says("eventAt: 4 COST (by THE ARRIVALS as they are now); layer: there is no TABLE any more");
        Net plain = Picking.shaken(), tabled = Picking.shaken();
        plain.vote(400, 20, 160, 3);
        tabled.vote(400, 20, 160, 3);
        String first = byArrivals(tabled);
        Check.must("alike", first.equals(byArrivals(plain)));
        tabled.table(70, 33);
        Check.must("by the TABLE", !byArrivals(tabled).equals(first));
        tabled.table(100, 75);
        String other = byArrivals(tabled);
        tabled.table(1, 1);
        Check.must("by another TABLE", !byArrivals(tabled).equals(other));
        tabled.table(70, 33);
        plain.layer(100, 32);
        tabled.layer(100, 32);
        Check.must("a LAYER beneath all rays of the one above: as at first", byArrivals(tabled).equals(first));
        Check.must("no TABLE any more: all is as if there never was one", byMore(tabled).equals(byMore(plain)));
        Check.due("tabled", tabled.tabled(4321, 123), plain.tabled(4321, 123));
        Check.refuses("doubt", tabled, Check.STATE, n -> n.doubt());
        Net fast = Picking.shaken();
        fast.vote(400, 20, 160, 3);
        long cost = fast.eventAt(0, 4), x = fast.eventAt(0, 0), o = fast.eventAt(0, 3);
        fast.table(70, 33);
        long byTable = fast.eventAt(0, 4);
        Check.must("another COST", cost != byTable);
        Check.due("the place stays", fast.eventAt(0, 0), x);
        Check.due("the ORIGIN stays", fast.eventAt(0, 3), o);
        double sum = 0.0;
        for (int k = 0; k < fast.event(0, 0); k++) {
            double r = Check.number(fast.residual(0, k));
            sum = sum + fast.pick(fast.member(0, k), 3) * (r * r);
        }
        Check.due("COST by the RESIDUALS as they are now", byTable, sum);
    }

    // ---- taken back

    private static void takenBackEverywhere() {
        Check.says("When a PICK is TAKEN BACK it is a member no more; an EVENT .. is TAKEN BACK, and has no members any more: as all calls tell it");
        Net n = Picking.shaken();
        n.rule(2, -1000);
        Check.due("vote", n.vote(1000, 0, 0, 4), 0);
        n.place(0, 2);
        n.swarms(10);
        n.tick();
        long digest = n.digest();
        int end = n.event(0, 3), steps = n.event(0, 4);
        long x = n.eventAt(0, 0), o = n.eventAt(0, 3);
        n.tick();
        Check.due("rework", n.rework(1), 1);
        Check.due("the pick's end", n.pick(1, 6), 2);
        Check.due("a member of none", n.pick(1, 4), Check.NONE);
        for (int p : new int[] {0, 2, 3}) {
            Check.due("the others are KNOWN", n.pick(p, 6), Check.NONE);
            Check.due("and members of none", n.pick(p, 4), Check.NONE);
        }
        Check.due("known picks of it", n.status(1, 9), 0);
        Check.due("members", n.event(0, 0), 0);
        Check.due("with PHASE 0", n.event(0, 5), 0);
        Check.due("until", n.event(0, 2), 2);
        Check.due("its latest place", n.event(0, 3) * 100 + n.event(0, 4), end * 100 + steps);
        Check.due("its place stays", n.eventAt(0, 0), x);
        Check.due("its ORIGIN stays", n.eventAt(0, 3), o);
        Check.due("COST of none", n.eventAt(0, 4), 0.0);
        Check.refuses("a member", n, Check.UNKNOWN, m -> m.member(0, 0));
        Check.refuses("a residual", n, Check.UNKNOWN, m -> m.residual(0, 0));
        Check.refuses("place", n, Check.STATE, m -> m.place(0, 1));
        Check.refuses("search", n, Check.STATE, m -> m.search(0, 400, 1));
        Check.refuses("error", n, Check.STATE, m -> m.error(0, 0));
        Check.refuses("size", n, Check.STATE, m -> m.size(0));
        Check.due("its swarm was", n.swarm(0), 0);
        Check.due("no swarms", n.swarms(100000), 0);
        Check.due("it was in none", n.swarm(0), Check.NONE);
        Check.must("another digest", n.digest() != digest);
        Check.due("its ALERT is KNOWN up to the tick", n.event(0, 6), 0);
        Check.due("known at 1", n.known(1, 0) * 100 + n.known(1, 1) * 10 + n.known(1, 2), 411);
        Check.due("known at 2, the EVENT no more, its ALERT still", n.known(2, 0) * 100 + n.known(2, 1) * 10 + n.known(2, 2), 301);
        n.tick();
        Check.due("its ALERT ends", n.alert(0, 2), 3);
        Check.due("no KNOWN ALERT", n.event(0, 6), Check.NONE);
        Check.due("known at 3", n.known(3, 2), 0);
        Check.due("known at 2 as before", n.known(2, 2), 1);
        Check.due("at just one of 1 and 3", n.compare(1, 3), 1);
        n.read(1, 128);
        Check.due("what is READ again is a new PICK", n.count(1), 5);
        Check.due("at the same SAMPLE", n.pick(4, 1), n.pick(1, 1));
        Check.due("a new EVENT of all", n.vote(1000, 0, 0, 4), 1);
        Check.due("the new PICK stands at its STATION's place", n.member(1, 1), 4);
        Check.due("no ALERT yet", n.event(1, 6), Check.NONE);
        n.tick();
        Check.due("its ALERT is a new one", n.event(1, 6), 1);
        Check.due("the elder EVENT stays TAKEN BACK", n.event(0, 2), 2);
        Check.due("and its ALERT", n.alert(0, 2), 3);
    }

    private static void severalAtOnce() {
        Check.says("rework: its KNOWN PICKS are TAKEN BACK, in order: members of several EVENTS");
        Net n = Picking.around();
        for (int s = 0; s < 3; s++) Picking.hearAnew(n, s, 30 + 20 * s, 330 + 20 * s);
        Check.due("the first", n.vote(1000, 0, 0, 3), 0);
        Check.due("the second", n.vote(1000, 0, 0, 2), 1);
        Check.due("members", n.event(0, 0) * 10 + n.event(1, 0), 33);
        n.tick();
        Check.due("two", n.rework(1), 2);
        Check.due("of 3 two are too few", n.event(0, 2), 1);
        Check.due("of 2 they are enough", n.event(1, 2), Check.NONE);
        Check.due("members", n.event(0, 0) * 10 + n.event(1, 0), 2);
        Check.due("none is left of it", n.rework(1), 0);
        Check.due("one group is left", n.swarms(0), 1);
        Check.due("it is its own", n.swarm(1), 1);
    }

    public static void main(String[] args) {
        behindAllThese();
        inPieces();
        anew();
        alsoForWhatWasRead();
        asTheyAreNow();
        takenBackEverywhere();
        severalAtOnce();
        Check.end("together");
    }
}
