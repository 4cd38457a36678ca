import java.util.function.ToLongFunction;

/** The boundary cases of sections 3 and 6: THE CLOCK, what is KNOWN when, THE RULE, ALERTS, WORK ROWS. */
public final class AlertsTest {
    // ---- known when

    private static void knownWhen() {
        Check.says("KNOWN from THE CLOCK at which it came until that at which it is TAKEN BACK (which is not of it), if ever");
        Net n = Picking.around();
        n.rule(3, -1000);
        n.tick();
        for (int s = 0; s < 3; s++) Picking.hear(n, s, 1000, 30 + 20 * s);
        n.tick();
        n.vote(1000, 0, 0, 3);
        n.tick();
        n.tick();
        n.rework(1);
        n.tick();
        // PICKS came at 1, one is gone at 4; the EVENT came at 2 and is gone at 4; its ALERT is of 3 and 4
        int[][] want = {{0, 0, 0}, {3, 0, 0}, {3, 1, 0}, {3, 1, 1}, {2, 0, 1}, {2, 0, 0}};
        for (int c = 0; c < 6; c++) {
            for (int w = 0; w < 3; w++) Check.due("known(" + c + ", " + w + ")", n.known(c, w), want[c][w]);
        }
        int[][] lives = {{n.pick(1, 5), n.pick(1, 6)}, {n.event(0, 1), n.event(0, 2)}, {n.alert(0, 1), n.alert(0, 2)}};
        int[][] due = {{1, 4}, {2, 4}, {3, 5}};
        for (int w = 0; w < 3; w++) {
            Check.due("from", lives[w][0], due[w][0]);
            Check.due("until", lives[w][1], due[w][1]);
        }
        Check.due("never taken back", n.pick(0, 6), Check.NONE);
        Check.refuses("the clock is 5", n, Check.OUTSIDE, m -> m.known(6, 0));
        Check.refuses("before all", n, Check.OUTSIDE, m -> m.known(-1, 0));
        Check.says("compare: How many PICKS were KNOWN, likewise, at just one of two");
        int[][] pairs = {{0, 0, 0}, {0, 1, 3}, {1, 0, 3}, {1, 3, 0}, {1, 4, 1}, {3, 4, 1}, {0, 5, 2}, {4, 5, 0}, {5, 5, 0}};
        for (int[] p : pairs) Check.due("compare(" + p[0] + ", " + p[1] + ")", n.compare(p[0], p[1]), p[2]);
        Check.refuses("the clock is 5", n, Check.OUTSIDE, m -> m.compare(6, 0));
        Check.refuses("the clock is 5", n, Check.OUTSIDE, m -> m.compare(0, 6));
    }

    private static void neverKnown() {
        Check.says("until that at which it is TAKEN BACK (which is not of it): what came and went at one CLOCK was never KNOWN at its end");
        Net n = Picking.shaken();
        n.vote(1000, 0, 0, 4);
        Check.due("known", n.known(0, 0) * 10 + n.known(0, 1), 41);
        n.rework(0);
        Check.due("from and until", n.pick(0, 5) + n.pick(0, 6), 0);
        Check.due("one PICK and the EVENT are not", n.known(0, 0) * 10 + n.known(0, 1), 30);
        n.tick();
        Check.due("nor later", n.known(0, 0) * 10 + n.known(1, 0), 33);
    }

    // ---- the rule

    /** Four STATIONS 63 from the middle, heights of 1024: the SIZE is 10 + 1.5 * 6 = 19, and more by TERMS. */
    private static Net wholeSize(int stations, int term) {
        Net n = new Net();
        n.layer(200, 160);
        int[][] places = {{63, 0}, {0, 63}, {-63, 0}, {0, -63}};
        for (int s = 0; s < stations; s++) {
            Picking.station(n, places[s][0], places[s][1]);
            Picking.hear(n, s, 1024, 20);
            n.term(s, term);
        }
        Check.due("vote of the test", n.vote(1000, 0, 0, stations), 0);
        Check.due("x of the test", n.eventAt(0, 0), 0.0);
        return n;
    }

    private static void ruleAtFirst() {
        Check.says("THE RULE (4 STATIONS, SIZE 0 at first)");
        for (int stations = 3; stations <= 4; stations++) {
            Net n = wholeSize(stations, 0);
            n.tick();
            Check.due("alerts by " + stations, n.count(3), stations == 4 ? 1 : 0);
        }
        for (int term = -305; term <= -303; term++) {
            Net n = wholeSize(4, term);
            Check.due("size", n.size(0), (304 + term) / 16.0);
            n.tick();
            Check.due("alerts by a size of " + (304 + term) + " / 16", n.count(3), term >= -304 ? 1 : 0);
        }
    }

    private static void ruleAtItsBorder() {
        Check.says("HOLDS for a KNOWN EVENT with so many members with PHASE 0 at least");
        for (int so = 2; so <= 5; so++) {
            Net n = wholeSize(4, 0);
            n.rule(so, -1000);
            n.tick();
            Check.due("4 by " + so, n.count(3), so <= 4 ? 1 : 0);
        }
        Check.says("whose SIZE is there and >= told / 16.0");
        for (int told = 303; told <= 305; told++) {
            Net n = wholeSize(4, 0);
            n.rule(4, told);
            n.tick();
            Check.due("19 by " + told + " / 16", n.count(3), told <= 304 ? 1 : 0);
        }
        for (int told : new int[] {-1000, -999}) {
            Net n = lowSize();
            Check.due("size", n.size(0), -62.5);
            n.rule(2, told);
            n.tick();
            Check.due("-62.5 by " + told, n.count(3), told == -1000 ? 1 : 0);
        }
        Check.says("members with PHASE 0: PHASE 1 does not count");
        Net n = withSecond();
        n.rule(4, -1000);
        n.tick();
        Check.due("three and one", n.count(3), 0);
        Check.due("no SIZE was looked for", n.count(7), 0);
        n.rule(3, -1000);
        n.tick();
        Check.due("three", n.count(3), 1);
    }

    // a beat of 1 at the EVENT's own place: LOG(1) + 1.5 * LOG(1 + 0) is 0
    private static Net lowSize() {
        Net n = new Net();
        n.layer(200, 160);
        for (int s = 0; s < 2; s++) {
            Picking.station(n, -1000, -1000);
            Picking.hear(n, s, 1, 20);
            n.term(s, -1000);
        }
        Check.due("vote of the test", n.vote(1000, 0, 0, 2), 0);
        return n;
    }

    /** An EVENT with three members of PHASE 0 and one of PHASE 1, of another STATION. */
    private static Net withSecond() {
        Net n = Picking.around();
        Picking.hear(n, 0, 1000, 30);
        Picking.hear(n, 1, 1000, 20, 80);
        Picking.hear(n, 2, 1000, 70);
        Picking.hear(n, 3, 1000, 90);
        n.vote(1000, 0, 0, 3);
        Check.due("members of the test", n.event(0, 0) * 10 + n.event(0, 5), 43);
        return n;
    }

    private static void sizeThatIsThere() {
        Check.says("THE RULE HOLDS for a KNOWN EVENT .. whose SIZE is there");
        // a MATCH by what is past: the PICK itself, and all behind it, is silent
        for (int loud = 0; loud < 2; loud++) {
            Net n = new Net();
            n.layer(200, 160);
            n.wave(0, 1);
            for (int s = 0; s < 2; s++) {
                n.station(0, 0, 1);
                n.picker(s, 2, 1, 2, 16);
                n.lane(1);
                n.raw(1000);
                n.swing(7, 0, 0);
                if (s < loud) n.raw(1000);
                n.packet(s, 0, 1, 32);
                n.read(s, 9);
            }
            Check.due("vote", n.vote(1000, 0, 0, 2), 0);
            n.rule(2, -1000);
            n.tick();
            Check.due("ALERTS with " + loud + " that can be heard", n.count(3), loud);
            Check.due("it was looked for", n.count(7), 1);
        }
    }

    private static void lookedForOnlyThen() {
        Check.says("it is looked for only then, of KNOWN EVENTS with so many");
        Net n = wholeSize(4, 0);
        n.rule(5, -1000);
        n.tick();
        Check.due("too few", n.count(7), 0);
        n.rule(4, 1000);
        n.tick();
        Check.due("so many, but too small", n.count(7), 1);
        n.rule(4, 0);
        n.tick();
        Check.due("so many", n.count(7), 2);
        n.tick();
        Check.due("also with an ALERT", n.count(7), 3);
        Check.due("one ALERT", n.count(3), 1);
        n.rework(0);
        n.tick();
        Check.due("TAKEN BACK", n.count(7), 3);
        Check.due("none is out", n.count(6), 0);
    }

    // ---- ticks

    private static void ticks() {
        Check.says("tick: if THE RULE HOLDS, and no KNOWN ALERT is of it, one comes; if it does not, its KNOWN ALERT is TAKEN BACK");
        Net n = wholeSize(4, 0);
        Check.due("ahead of it", n.event(0, 6), Check.NONE);
        Check.due("tick", n.tick(), 1);
        Check.due("it comes", n.event(0, 6), 0);
        Check.due("tick", n.tick(), 2);
        Check.due("no other", n.count(3), 1);
        Check.due("from", n.alert(0, 1), 1);
        n.rule(4, 305);
        Check.due("still there", n.event(0, 6), 0);
        n.tick();
        Check.due("gone", n.event(0, 6), Check.NONE);
        Check.due("until", n.alert(0, 2), 3);
        n.tick();
        Check.due("until, still", n.alert(0, 2), 3);
        n.rule(4, 304);
        n.tick();
        Check.due("another one", n.event(0, 6), 1);
        Check.due("its clock", n.alert(1, 1), 5);
        Check.says("tick: (or the EVENT is TAKEN BACK)");
        n.rework(0);
        Check.due("the EVENT is gone", n.event(0, 2), 5);
        Check.due("its ALERT is not yet", n.alert(1, 2), Check.NONE);
        Check.due("and it is its own", n.event(0, 6), 1);
        n.tick();
        Check.due("it is now", n.alert(1, 2), 6);
        Check.due("none is its own", n.event(0, 6), Check.NONE);
        n.tick();
        Check.due("none comes for it", n.count(3), 2);
    }

    private static void inOrder() {
        Check.says("tick: for each EVENT, in order");
        Net n = new Net();
        n.layer(200, 160);
        for (int s = 0; s < 2; s++) {
            Picking.station(n, 0, 0);
            Picking.hearAnew(n, s, 10, 20, 30);
        }
        for (int e = 0; e < 3; e++) Check.due("vote", n.vote(1000, 0, 0, 2), e);
        n.rule(2, -1000);
        n.tick();
        for (int a = 0; a < 3; a++) Check.due("its event", n.alert(a, 0), a);
        for (int e = 0; e < 3; e++) Check.due("its alert", n.event(e, 6), e);
        Check.refuses("no other", n, Check.UNKNOWN, m -> m.alert(3, 0));
    }

    /** EVENT 0 with three members, EVENT 1 with two. */
    private static Net twoEvents() {
        Net n = new Net();
        n.layer(200, 160);
        for (int s = 0; s < 3; s++) Picking.station(n, 0, 0);
        Picking.hearAnew(n, 0, 10, 20);
        Picking.hearAnew(n, 1, 10, 20);
        Picking.hearAnew(n, 2, 10);
        for (int e = 0; e < 2; e++) Check.due("vote", n.vote(1000, 0, 0, 2), e);
        Check.due("members of the test", n.event(0, 0) * 10 + n.event(1, 0), 32);
        return n;
    }

    private static Net manyAlerts() {
        Net n = twoEvents();
        for (int i = 0; i < 70; i++) {
            n.rule(2, -1000);
            n.tick();
            n.rule(16, 0);
            n.tick();
        }
        return n;
    }

    private static void tickWithoutRoom() {
        Check.says("tick: ROOM: there are more than 140 ALERTS (ever)");
        Net n = manyAlerts(), other = manyAlerts();
        Check.due("alerts", n.count(3), 140);
        Check.due("all of them are TAKEN BACK", n.known(140, 2), 0);
        for (Net m : new Net[] {n, other}) {
            m.rule(3, -1000);
            Check.due("140 are not too many", m.tick(), 141);
            Check.due("alerts", m.count(3), 141);
            m.rule(16, 0);
        }
        Check.refuses("141 are", n, Check.ROOM, m -> m.tick());
        Check.must("nothing has changed", Scene.glance(n).equals(Scene.glance(other)));
        Check.due("the clock", n.count(5), 141);
        Check.due("still known", n.alert(140, 2), Check.NONE);
    }

    private static void twoHundred() {
        Check.says("ALERTS (200 at most ever, numbered from 0 on)");
        Net n = new Net();
        n.layer(200, 160);
        for (int s = 0; s < 4; s++) {
            Picking.beatingStation(n, 0, 0, s < 2 ? 3 : 5);
            n.term(s, s < 2 ? 0 : -1000);
        }
        for (int e = 0; e < 60; e++) {
            int s = e < 20 ? 0 : 2;
            Picking.beat(n, s);
            Picking.beat(n, s + 1);
            Check.due("vote", n.vote(1000, 0, 0, 2), e);
        }
        // all 60, all 60, the 20 greater ones, all 60
        int[] sizes = {-1000, -1000, 0, -1000}, alerts = {60, 120, 140, 200};
        for (int i = 0; i < 4; i++) {
            n.rule(2, sizes[i]);
            Check.due("tick", n.tick(), 2 * i + 1);
            Check.due("alerts", n.count(3), alerts[i]);
            n.rule(16, 0);
            if (i < 3) n.tick();
        }
        Check.due("the last one", n.alert(199, 0), 59);
        Check.due("its clock", n.alert(199, 1), 7);
        Check.refuses("no other", n, Check.UNKNOWN, m -> m.alert(200, 0));
        Check.refuses("no tick", n, Check.ROOM, m -> m.tick());
        Check.due("known", n.known(7, 2), 60);
    }

    // No 512 calls come so far; the program keeps to it all the same.
    private static void endOfTheClock() {
        Check.says("tick: ROOM: THE CLOCK is 100000");
        QuakeNet n = new QuakeNet();
        int at = 0;
        for (int i = 0; i < 99999; i++) at = n.tick();
        Check.due("so far", at, 99999);
        Check.due("the last one", n.tick(), 100000);
        Check.due("not refused", n.code(), 0);
        Check.due("none more", n.tick(), Check.ROOM);
        Check.due("its code", n.code(), Check.ROOM);
        Check.due("the clock", n.count(5), 100000);
        Check.due("known", n.known(100000, 0), 0);
        Check.due("not refused", n.code(), 0);
    }

    // ---- work rows

    private static void rows(String what, int taken, Net n, ToLongFunction<Net> call) {
        int before = n.count(7);
        call.applyAsLong(n);
        Check.due(what + ", rows taken", n.count(7) - before, taken);
        Check.due(what + ", rows that are out", n.count(6), 0);
    }

    private static void workRows() {
        Check.says("WORK ROWS are taken by spectrum() (ahead of its FAILURES)");
        Net n = Scene.make();
        rows("spectrum", 1, n, m -> m.spectrum(5, 0, 3));
        rows("its FAILURE", 1, n, m -> m.spectrum(5, 30, 3));
        rows("no station", 0, n, m -> m.spectrum(6, 0, 3));
        rows("no block", 0, n, m -> m.spectrum(5, 32, 3));
        rows("outside", 0, n, m -> m.spectrum(5, 0, 17));
        Check.says("WORK ROWS are taken by place(), search(), error() (not by what is refused; but by one that is SINGULAR)");
        rows("place", 1, n, m -> m.place(1, 1));
        rows("place by many steps", 1, n, m -> m.place(1, 20));
        rows("place, unknown", 0, n, m -> m.place(2, 1));
        rows("place, outside", 0, n, m -> m.place(1, 0));
        rows("place, taken back", 0, n, m -> m.place(0, 1));
        rows("search", 1, n, m -> m.search(1, 1000, 5));
        rows("search, unknown", 0, n, m -> m.search(2, 1000, 5));
        rows("search, outside", 0, n, m -> m.search(1, 399, 5));
        rows("search, taken back", 0, n, m -> m.search(0, 1000, 5));
        rows("error", 1, n, m -> m.error(1, 0));
        rows("error, unknown", 0, n, m -> m.error(2, 0));
        rows("error, outside", 0, n, m -> m.error(1, 3));
        rows("error, taken back", 0, n, m -> m.error(0, 0));
        Net alike = new Net();
        alike.layer(200, 160);
        for (int s = 0; s < 4; s++) {
            Picking.station(alike, 0, 0);
            Picking.hear(alike, s, 1000, 20);
        }
        alike.vote(1000, 0, 0, 2);
        rows("place, singular", 1, alike, m -> m.place(0, 5));
        Check.due("it is", alike.event(0, 3), 2);
        rows("error, singular", 1, alike, m -> m.error(0, 1));
        Check.refuses("it is", alike, Check.STATE, m -> m.error(0, 1));
        alike.rework(3);
        rows("error, three members", 0, alike, m -> m.error(0, 1));
        Check.says("WORK ROWS are taken by SIZE (also where there is none), one each, and given back at their ends");
        rows("size", 1, n, m -> m.size(1));
        rows("size of none", 1, n, m -> m.size(0));
        rows("size, unknown", 0, n, m -> m.size(2));
        rows("tick: one KNOWN EVENT with so many", 1, n, m -> m.tick());
        n.rule(16, 0);
        rows("tick: none with so many", 0, n, m -> m.tick());
        Net two = twoEvents();
        two.rule(2, 1000);
        rows("tick: two of them", 2, two, m -> m.tick());
        two.rule(3, 1000);
        rows("tick: one of them", 1, two, m -> m.tick());
    }

    private static void noWorkRows() {
        Check.says("WORK ROWS are taken by these alone");
        Net n = Scene.make();
        rows("vote", 0, n, m -> m.vote(1000, 0, 400, 2));
        rows("event", 0, n, m -> m.event(1, 0));
        rows("eventAt", 0, n, m -> m.eventAt(1, 4));
        rows("residual", 0, n, m -> m.residual(1, 0));
        rows("swarms", 0, n, m -> m.swarms(100));
        rows("ground", 0, n, m -> m.ground(5, 0));
        rows("read", 0, n, m -> m.read(5, 5));
        rows("now", 0, n, m -> m.now(5, 1));
        rows("table", 0, n, m -> m.table(5, 5));
        rows("doubt", 0, n, m -> m.doubt());
        rows("time", 0, n, m -> m.time(0, 5, 5));
        rows("digest", 0, n, m -> m.digest());
        rows("packet", 0, n, m -> m.packet(5, 8, 3, 32));
        rows("rework", 0, n, m -> m.rework(2));
        rows("rule", 0, n, m -> m.rule(2, 0));
        rows("known", 0, n, m -> m.known(0, 0));
        rows("layer", 0, n, m -> m.layer(5, 5));
    }

    public static void main(String[] args) {
        knownWhen();
        neverKnown();
        ruleAtFirst();
        ruleAtItsBorder();
        sizeThatIsThere();
        lookedForOnlyThen();
        ticks();
        inOrder();
        tickWithoutRoom();
        twoHundred();
        endOfTheClock();
        workRows();
        noWorkRows();
        Check.end("alerts");
    }
}
