/** The boundary cases of section 5: votes, members, placing, searching, sizes, swarms. */
public final class EventsTest {
    private static void placedAt(Net n, int e, double x, double y, double z, double o) {
        Check.due("x", n.eventAt(e, 0), x);
        Check.due("y", n.eventAt(e, 1), y);
        Check.due("z", n.eventAt(e, 2), z);
        Check.due("origin", n.eventAt(e, 3), o);
    }

    private static void members(Net n, int e, int... picks) {
        Check.due("members", n.event(e, 0), picks.length);
        for (int k = 0; k < picks.length; k++) {
            Check.due("member " + k, n.member(e, k), picks[k]);
            Check.due("its event", n.pick(picks[k], 4), e);
        }
        Check.refuses("no more of them", n, Check.UNKNOWN, m -> m.member(e, picks.length));
    }

    // ---- rooms

    private static void sixtyEvents() {
        Check.says("EVENTS (60 at most ever, numbered from 0 on); ROOM: there are 60 EVENTS");
        Net n = new Net();
        n.layer(200, 160);
        for (int s = 0; s < 2; s++) Picking.beatingStation(n, 0, 0, 8);
        for (int e = 0; e < 60; e++) {
            for (int s = 0; s < 2; s++) Picking.beat(n, s);
            Check.due("its number", n.vote(1000, 0, 0, 2), e);
        }
        for (int s = 0; s < 2; s++) Picking.beat(n, s);
        Check.refuses("a 61st", n, Check.ROOM, m -> m.vote(1000, 0, 0, 2));
        Check.due("events", n.count(2), 60);
        Check.due("not a member", n.pick(120, 4), Check.NONE);
        Check.refuses("outside ahead of room", n, Check.OUTSIDE, m -> m.vote(1000, 0, 0, 17));
        Check.due("each by itself", n.swarms(3), 60);
        Check.due("all of them", n.swarms(4), 1);
        Check.due("known", n.known(0, 1), 60);
        Check.must("a digest", n.digest() != 0L);
        Check.due("a tick", n.tick(), 1);
        Check.due("all are taken back", n.rework(0), 61);
        Check.due("none is known", n.known(1, 1), 0);
        for (int i = 0; i < 2; i++) Picking.beat(n, 0);
        Check.refuses("60 ever", n, Check.ROOM, m -> m.vote(1000, 0, 0, 2));
        Check.refuses("no 61st", n, Check.UNKNOWN, m -> m.event(60, 0));
        Check.due("the last one", n.event(59, 2), 1);
    }

    private static void sixtyCandidates() {
        Check.says("ROOM: more than 60 CANDIDATES");
        Net n = new Net();
        n.layer(200, 160);
        for (int s = 0; s < 2; s++) Picking.beatingStation(n, 1000 * s, 0, 5);
        for (int i = 0; i < 60; i++) Picking.beat(n, i % 2);
        Check.due("60 are not too many", n.vote(1000, 0, 0, 16), Check.NONE);
        Check.due("not refused", n.code(), 0);
        Picking.beat(n, 0);
        Check.refuses("61 are", n, Check.ROOM, m -> m.vote(1000, 0, 0, 16));
        Check.due("events", n.count(2), 0);
        Check.due("PICKS", n.count(1), 61);
        n.rework(1);
        Check.due("what is TAKEN BACK is none", n.vote(1000, 0, 0, 16), Check.NONE);
        Check.due("not refused", n.code(), 0);
        Check.says("CANDIDATES are KNOWN PICKS with PHASE 0 that are members of none: these alone count");
        Net m = new Net();
        m.layer(200, 160);
        for (int s = 0; s < 3; s++) Picking.beatingStation(m, 0, 0, 5);
        for (int s = 0; s < 2; s++) Picking.beat(m, s);
        Check.due("two members", m.vote(1000, 0, 0, 2), 0);
        for (int i = 0; i < 60; i++) Picking.beat(m, i % 2);
        m.read(2, 128);
        m.filter(2, 0, 8);
        Check.due("PICKS", m.count(1), 62 + 63);
        Check.due("one of PHASE 0", m.pick(62, 2), 0);
        Check.due("62 of PHASE 1", m.pick(124, 2), 1);
        Check.refuses("61", m, Check.ROOM, x -> x.vote(1000, 0, 0, 16));
        m.rework(2);
        Check.due("60", m.vote(1000, 0, 0, 16), Check.NONE);
    }

    // ---- votes

    private static Net twoApart(int apart) {
        Net n = new Net();
        n.layer(200, 160);
        for (int s = 0; s < 2; s++) Picking.station(n, 0, 0);
        Picking.hear(n, 0, 1000, 30);
        Picking.hear(n, 1, 1000, 30 + apart);
        return n;
    }

    private static void tolerances() {
        Check.says("VOTES: abs((SAMPLE - ARRIVAL) - o) <= tolerance (/ 8.0)");
        Check.due("0 by 0", twoApart(0).vote(1000, 0, 0, 2), 0);
        Check.due("1 by 0", twoApart(1).vote(1000, 0, 0, 2), Check.NONE);
        Check.due("1 by 7 / 8", twoApart(1).vote(1000, 0, 7, 2), Check.NONE);
        Check.due("1 by 8 / 8", twoApart(1).vote(1000, 0, 8, 2), 0);
        Check.due("-1 by 7 / 8", twoApart(-1).vote(1000, 0, 7, 2), Check.NONE);
        Check.due("-1 by 8 / 8", twoApart(-1).vote(1000, 0, 8, 2), 0);
        Check.due("50 by 399 / 8", twoApart(50).vote(1000, 0, 399, 2), Check.NONE);
        Check.due("50 by 400 / 8", twoApart(50).vote(1000, 0, 400, 2), 0);
        Check.due("51 by 400 / 8", twoApart(51).vote(1000, 0, 400, 2), Check.NONE);
    }

    private static void leastVotes() {
        Check.says("make the EVENT, if they are LEAST at least");
        for (int least : new int[] {2, 3, 4}) {
            Net n = Picking.shaken();
            Check.due("4 by " + least, n.vote(1000, 0, 0, least), 0);
            placedAt(n, 0, 0.0, 0.0, 0.0, 10.0);
            members(n, 0, 0, 1, 2, 3);
        }
        Net n = Picking.shaken();
        Check.due("4 by 5", n.vote(1000, 0, 0, 5), Check.NONE);
        Check.due("no event", n.count(2), 0);
        Check.due("no candidates", Picking.around().vote(1000, 0, 0, 2), Check.NONE);
        Check.says("VOTES are the STATIONS with a CANDIDATE");
        Net one = new Net();
        one.layer(200, 160);
        Picking.station(one, 0, 0);
        Picking.hearAnew(one, 0, 30, 33, 36);
        Check.due("three PICKS of one STATION", one.vote(1000, 0, 400, 2), Check.NONE);
        Picking.station(one, 0, 0);
        Picking.hear(one, 1, 1000, 34);
        Check.due("two STATIONS by 3", one.vote(1000, 0, 400, 3), Check.NONE);
        Check.due("two STATIONS by 2", one.vote(1000, 0, 400, 2), 0);
    }

    private static void firstNode() {
        Check.says("The node and CANDIDATE with the most VOTES, the first of these: the first x, and of it the first y");
        Net n = new Net();
        n.layer(200, 160);
        // two pairs, each for a node of its own; their places are the same if x and y change places
        int[][] heard = {{0, -800, 33}, {400, -1000, 53}, {-800, 0, 30}, {-1000, 400, 50}};
        for (int s = 0; s < 4; s++) {
            Picking.station(n, heard[s][0], heard[s][1]);
            Picking.hear(n, s, 1000, heard[s][2]);
        }
        Check.due("vote", n.vote(1000, 0, 0, 2), 0);
        placedAt(n, 0, -1000.0, 0.0, 0.0, 10.0);
        members(n, 0, 2, 3);
        Check.due("the other pair", n.vote(1000, 0, 0, 2), 1);
        placedAt(n, 1, 0.0, -1000.0, 0.0, 13.0);
        Check.says("the first of these: all nodes are alike for STATIONS at one place");
        Net m = twoApart(2);
        m.vote(300, 0, 400, 2);
        double far = Math.sqrt(1000.0 * 1000.0 + 1000.0 * 1000.0);
        placedAt(m, 0, -1000.0, -1000.0, 0.0, 30 - Math.sqrt(far * far) / 10.0);
    }

    private static void gridEdges() {
        Check.says("x from -1000 up by steps to 1000, for each x the y likewise");
        // a shake at 1000, 1000 is heard there alone by all, and a step of 300 does not come to it
        for (int step : new int[] {200, 250, 500, 1000}) {
            Net n = corner();
            Check.due("vote by " + step, n.vote(step, 0, 8, 3), 0);
            placedAt(n, 0, 1000.0, 1000.0, 0.0, 10.0);
        }
        Check.due("by 300 from -1000 on it is 800 at most", corner().vote(300, 0, 8, 3), Check.NONE);
        Check.due("by 999 it is 998", corner().vote(999, 0, 8, 3), 0);
        Net n = corner();
        n.vote(999, 0, 8, 3);
        Check.due("x", n.eventAt(0, 0), 998.0);
        Check.due("y", n.eventAt(0, 1), 998.0);
    }

    private static Net corner() {
        Net n = new Net();
        n.layer(200, 160);
        int[][] places = {{1000, 800}, {600, 1000}, {1000, 400}, {200, 1000}};
        for (int s = 0; s < 4; s++) {
            Picking.station(n, places[s][0], places[s][1]);
            Picking.hear(n, s, 1000, 30 + 20 * s);
        }
        return n;
    }

    private static void firstCandidate() {
        Check.says("the CANDIDATE with the most VOTES, the first of these, makes its ORIGIN");
        Net n = twoApart(2);
        n.vote(1000, 0, 16, 2);
        double far = Math.sqrt(1000.0 * 1000.0 + 1000.0 * 1000.0), t = Math.sqrt(far * far) / 10.0;
        Check.due("by PICK 0", n.eventAt(0, 3), 30 - t);
        // 30 and 34 hear 32 both, but not one another
        Net m = new Net();
        m.layer(200, 160);
        for (int s = 0; s < 3; s++) Picking.station(m, 0, 0);
        int[] samples = {30, 34, 32};
        for (int s = 0; s < 3; s++) Picking.hear(m, s, 1000, samples[s]);
        m.vote(1000, 0, 20, 2);
        Check.due("by PICK 2, which has three", m.eventAt(0, 3), 32 - t);
        members(m, 0, 0, 1, 2);
    }

    private static void nearestMembers() {
        Check.says("members are, for each STATION with such ones, that with the least abs(..) (of these the first)");
        int[][] pairs = {{68, 72}, {68, 71}, {69, 72}, {70, 73}};
        int[] chosen = {0, 1, 0, 0};
        for (int i = 0; i < pairs.length; i++) {
            Net n = Picking.around();
            Picking.hear(n, 0, 1000, 30);
            Picking.hear(n, 1, 1000, 50);
            int p = Picking.hearAnew(n, 2, pairs[i]);
            Picking.hear(n, 3, 1000, 90);
            Check.due("vote", n.vote(1000, 0, 24, 4), 0);
            placedAt(n, 0, 0.0, 0.0, 0.0, 10.0);
            members(n, 0, 0, 1, p + chosen[i], 4);
            Check.due("not the other", n.pick(p + 1 - chosen[i], 4), Check.NONE);
        }
        Check.says("members are .. for each STATION with such ones: <= tolerance");
        for (int late = 90; late <= 93; late++) {
            Net n = Picking.around();
            for (int s = 0; s < 4; s++) Picking.hear(n, s, 1000, s == 3 ? late : 30 + 20 * s);
            Check.due("vote", n.vote(1000, 0, 16, 3), 0);
            Check.due("members with one " + (late - 90) + " late", n.event(0, 0), late <= 92 ? 4 : 3);
        }
        for (int tolerance = 23; tolerance <= 24; tolerance++) {
            Net n = Picking.around();
            for (int s = 0; s < 4; s++) Picking.hear(n, s, 1000, s == 3 ? 93 : 30 + 20 * s);
            Check.due("vote", n.vote(1000, 0, tolerance, 3), 0);
            Check.due("members with one 3 late by " + tolerance + " / 8", n.event(0, 0), tolerance == 24 ? 4 : 3);
        }
    }

    private static void secondPhases() {
        Check.says("of the KNOWN PICKS with PHASE 1 .. with abs(..) (by THE ARRIVAL of PHASE 1) <= 2.0 * tolerance, likewise one");
        // PHASE 1 comes to STATION 1 at 10 + 1.75 * 40
        int[] late = {77, 78, 80, 82, 83};
        for (int t : late) {
            Net n = withSecond(t);
            Check.due("vote", n.vote(1000, 0, 8, 4), 0);
            Check.due("at " + t, n.event(0, 0), t == 77 || t == 83 ? 4 : 5);
            Check.due("with PHASE 0", n.event(0, 5), 4);
            if (t != 77 && t != 83) {
                members(n, 0, 0, 1, 2, 3, 4);
                Check.due("residual", n.residual(0, 2), (t - 10.0) - 70.0);
            }
        }
        Net exact = withSecond(80);
        exact.vote(1000, 0, 0, 4);
        Check.due("by a tolerance of 0", exact.event(0, 0), 5);
        exact = withSecond(81);
        exact.vote(1000, 0, 0, 4);
        Check.due("1 late by 0", exact.event(0, 0), 4);
        Net less = withSecond(82);
        less.vote(1000, 0, 7, 4);
        Check.due("2 late by 7 / 4", less.event(0, 0), 4);
        Check.says("likewise one: the nearest with PHASE 1, of these the first");
        int[][] pairs = {{79, 81}, {78, 81}, {79, 82}};
        int[] chosen = {2, 3, 2};
        for (int i = 0; i < pairs.length; i++) {
            Net n = withSecond(pairs[i]);
            n.vote(1000, 0, 8, 4);
            members(n, 0, 0, 1, chosen[i], 4, 5);
        }
    }

    /** A shake in the middle at 10, and STATION 1 has PICKS with PHASE 1, too. */
    private static Net withSecond(int... later) {
        Net n = Picking.around();
        Picking.hear(n, 0, 1000, 30);
        int[] all = new int[1 + later.length];
        all[0] = 50;
        System.arraycopy(later, 0, all, 1, later.length);
        Picking.hear(n, 1, 1000, all);
        Picking.hear(n, 2, 1000, 70);
        Picking.hear(n, 3, 1000, 90);
        Check.due("phase of the test", n.pick(2, 2), 1);
        return n;
    }

    private static void secondPhasesAlone() {
        Check.says("for each STATION, of the KNOWN PICKS with PHASE 1 that are members of none");
        // PHASE 0 of STATION 1 is far too early, its PHASE 1 is just right
        Net n = Picking.around();
        Picking.hear(n, 0, 1000, 30);
        Picking.hear(n, 1, 1000, 20, 80);
        Picking.hear(n, 2, 1000, 70);
        Picking.hear(n, 3, 1000, 90);
        Check.due("vote", n.vote(1000, 0, 0, 3), 0);
        members(n, 0, 0, 2, 3, 4);
        Check.due("with PHASE 0", n.event(0, 5), 3);
        Check.says("an EVENT that has fewer than LEAST members with PHASE 0 then is TAKEN BACK");
        n.tick();
        Check.due("PHASE 1 and a free one", n.rework(1), 2);
        Check.due("LEAST are left", n.event(0, 2), Check.NONE);
        members(n, 0, 0, 3, 4);
        Check.due("one of them", n.rework(3), 1);
        Check.due("fewer are left", n.event(0, 2), 1);
        members(n, 0);
        Check.says("members of none: what was a member of an EVENT that is TAKEN BACK is so again");
        Check.due("two STATIONS are left", n.vote(1000, 0, 0, 2), 1);
        members(n, 1, 0, 3);
        Check.due("PHASE 1 is TAKEN BACK", n.pick(2, 4), Check.NONE);
    }

    private static void takenBack() {
        Check.says("an EVENT that has fewer than LEAST members with PHASE 0 then is TAKEN BACK, and has no members any more");
        for (int least = 2; least <= 4; least++) {
            Net n = Picking.shaken();
            n.vote(1000, 0, 0, least);
            n.tick();
            for (int s = 0; s < 4; s++) {
                n.rework(s);
                boolean known = 3 - s >= least;
                Check.due((3 - s) + " left of " + least, n.event(0, 2), known ? Check.NONE : 1);
                Check.due("members", n.event(0, 0), known ? 3 - s : 0);
                Check.due("a member", n.pick(3, 4), known ? 0 : Check.NONE);
                if (!known) break;
            }
        }
        Check.says("PHASE 1 does not count: fewer than LEAST members with PHASE 0");
        Net n = withSecond(80);
        n.vote(1000, 0, 0, 4);
        Check.due("five members, four with PHASE 0", n.event(0, 0) * 10 + n.event(0, 5), 54);
        n.rework(0);
        Check.due("taken back", n.event(0, 2), 0);
        Check.due("none with PHASE 1 either", n.pick(2, 4), Check.NONE);
        Check.due("known itself", n.pick(2, 6), Check.NONE);
        Check.says("LEAST is that of its own VOTE");
        Net own = Picking.shaken();
        own.vote(1000, 0, 0, 2);
        own.rule(4, 0);
        own.rework(0);
        own.vote(1000, 0, 0, 4);
        own.rework(1);
        Check.due("two are left of 2", own.event(0, 2), Check.NONE);
    }

    private static void candidates() {
        Check.says("CANDIDATES are KNOWN PICKS with PHASE 0 that are members of none");
        Net n = Picking.shaken();
        n.rework(0);
        Check.due("what is TAKEN BACK has no VOTE", n.vote(1000, 0, 0, 4), Check.NONE);
        Check.due("three are left", n.vote(1000, 0, 0, 3), 0);
        members(n, 0, 1, 2, 3);
        Check.due("members have no VOTE", n.vote(1000, 0, 400, 2), Check.NONE);
        n.read(0, 32);
        Check.due("READ again", n.count(1), 5);
        Check.due("one alone", n.vote(1000, 0, 0, 2), Check.NONE);
        // PHASE 1 at the right SAMPLE has no VOTE
        Net m = Picking.around();
        Picking.hear(m, 0, 1000, 10, 30);
        for (int s = 1; s < 4; s++) Picking.hear(m, s, 1000, 30 + 20 * s);
        Check.due("PHASE 1", m.pick(1, 2), 1);
        Check.due("has no VOTE", m.vote(1000, 0, 0, 4), Check.NONE);
        Check.due("the others have", m.vote(1000, 0, 0, 3), 0);
    }

    private static void allStations() {
        Check.says("members: PICKS, by STATIONS, of each PHASE 0 ahead of PHASE 1: two of each of 16 STATIONS at most");
        for (int missing = 0; missing < 2; missing++) {
            Net n = new Net();
            n.layer(200, 160);
            // 100 from the first node: PHASE 0 takes 10, PHASE 1 17.5
            for (int s = 0; s < 16; s++) {
                Picking.station(n, -940, -920);
                if (s >= missing) Picking.hear(n, s, 1000, 15, 23);
            }
            Check.due("16 by 16", n.vote(1000, 0, 2, 16), missing == 0 ? 0 : Check.NONE);
            if (missing == 0) {
                Check.due("members", n.event(0, 0), 32);
                Check.due("with PHASE 0", n.event(0, 5), 16);
                for (int k = 0; k < 32; k++) Check.due("member", n.member(0, k), k);
                Check.refuses("no more", n, Check.UNKNOWN, m -> m.member(0, 32));
                Check.due("COST", n.eventAt(0, 4), costOf(n));
                Check.due("SIZE", n.size(0), sizeBy(1000, 100.0, 0));
                n.rule(16, 0);
                n.tick();
                Check.due("an ALERT by 16", n.count(3), 1);
                Check.due("settled or not, it is placed", n.search(0, 1000, 5), 1);
                n.rework(15);
                Check.due("15 are fewer than LEAST", n.event(0, 0), 0);
            }
        }
    }

    private static double costOf(Net n) {
        double sum = 0.0;
        for (int k = 0; k < 32; k++) {
            double r = Check.number(n.residual(0, k));
            sum = sum + n.pick(k, 3) * (r * r);
        }
        return sum;
    }

    // ---- placing

    private static Net hearing(int[][] placesAndSamples) {
        Net n = new Net();
        n.layer(200, 160);
        for (int s = 0; s < placesAndSamples.length; s++) {
            Picking.station(n, placesAndSamples[s][0], placesAndSamples[s][1]);
            Picking.hear(n, s, 1000, placesAndSamples[s][2]);
        }
        Check.due("vote of the test", n.vote(1000, 0, 400, placesAndSamples.length), 0);
        return n;
    }

    private static void singularOnes() {
        Check.says("SINGULAR, if that is not > 1.0E-9");
        // the third of these numbers is 0.9995E-9 and 1.0013E-9
        int[][] below = {{919, 204, 20}, {987, 178, 20}, {963, 250, 20}}, above = {{777, 38, 20}, {781, 77, 20}, {752, 85, 20}};
        Net n = hearing(below);
        placedAt(n, 0, -1000.0, -1000.0, 0.0, Check.number(n.eventAt(0, 3)));
        long o = n.eventAt(0, 3);
        Check.due("below", n.place(0, 20), 2);
        Check.due("by what", n.event(0, 3), 2);
        Check.due("steps", n.event(0, 4), 0);
        Check.due("where it was", n.eventAt(0, 0), -1000.0);
        Check.due("when it was", n.eventAt(0, 3), o);
        Check.due("a work row", n.count(7), 1);
        n = hearing(above);
        placedAt(n, 0, -1000.0, -1000.0, 0.0, Check.number(n.eventAt(0, 3)));
        Check.must("above", n.place(0, 1) != 2);
        Check.must("by what", n.event(0, 3) != 2);
        Net same = twoApart(1);
        same.vote(1000, 0, 400, 2);
        Check.due("two STATIONS at one place", same.place(0, 1), 2);
        Check.says("error: STATE: N is SINGULAR");
        int[][] four = {{239, 315, 20}, {300, 287, 20}, {239, 301, 20}, {308, 297, 20}};
        int[][] better = {{-190, 348, 20}, {-162, 318, 20}, {-212, 325, 20}, {-220, 291, 20}};
        for (int k = 0; k < 3; k++) {
            int at = k;
            Net m = hearing(four);
            Check.refuses("0.9989E-9", m, Check.STATE, x -> x.error(0, at));
            Check.due("a work row", m.count(7), 1);
            Check.due("given back", m.count(6), 0);
            m = hearing(better);
            m.error(0, k);
            Check.due("1.0005E-9 is not refused", m.code(), 0);
        }
    }

    private static void settled() {
        Check.says("for f = 1.0, 0.5, .. (8 times, each half of the one before) .. 1 SETTLED: none of these 8 was");
        Net n = hearing(new int[][] {{-597, 602, 87}, {216, 338, 69}, {-498, -433, 29}});
        placedAt(n, 0, -1000.0, -1000.0, 0.0, Check.number(n.eventAt(0, 3)));
        double before = Check.number(n.eventAt(0, 4));
        Check.due("the 8th, by 1 / 128, is taken", n.place(0, 1), 0);
        Check.due("steps", n.event(0, 4), 1);
        Check.must("a lower cost", Check.number(n.eventAt(0, 4)) < before);
        Net m = hearing(new int[][] {{979, 145, 17}, {676, -55, 77}, {933, 219, 62}});
        placedAt(m, 0, -1000.0, 0.0, 0.0, Check.number(m.eventAt(0, 3)));
        long cost = m.eventAt(0, 4), o = m.eventAt(0, 3);
        Check.due("1 / 256 would be, but is not looked at", m.place(0, 1), 1);
        Check.due("by what", m.event(0, 3), 1);
        Check.due("steps", m.event(0, 4), 0);
        Check.due("where it was", m.eventAt(0, 0), -1000.0);
        Check.due("when it was", m.eventAt(0, 3), o);
        Check.due("cost", m.eventAt(0, 4), cost);
        Check.says("are taken, if COST there is < COST");
        Net exact = Picking.shaken();
        exact.vote(1000, 0, 0, 4);
        Check.due("a COST of 0.0 can't be less", exact.place(0, 20), 1);
        Check.due("steps", exact.event(0, 4), 0);
        placedAt(exact, 0, 0.0, 0.0, 0.0, 10.0);
    }

    private static void stepsDone() {
        Check.says("It ends: 0 so many steps were done");
        // heard from 130, -70: it settles behind some steps
        int settledBehind = beside().place(0, 20) == 1 ? 1 : 0;
        Check.due("it settles", settledBehind, 1);
        Net whole = beside();
        whole.place(0, 20);
        int all = whole.event(0, 4);
        Check.must("two steps at least, and fewer than 19", all >= 2 && all < 19);
        for (int steps = 1; steps <= all + 1; steps++) {
            Net n = beside();
            Check.due("place by " + steps, n.place(0, steps), steps <= all ? 0 : 1);
            Check.due("by what", n.event(0, 3), steps <= all ? 0 : 1);
            Check.due("steps", n.event(0, 4), Math.min(steps, all));
            Check.due("z stays", n.eventAt(0, 2), 5.0);
        }
        Net one = beside();
        for (int i = 0; i < all; i++) Check.due("one by one", one.place(0, 1), 0);
        Check.due("none more", one.place(0, 1), 1);
        Check.due("the latest place() alone", one.event(0, 4), 0);
        for (int w = 0; w < 5; w++) Check.due("the same", one.eventAt(0, w), whole.eventAt(0, w));
    }

    private static Net beside() {
        Net n = new Net();
        n.layer(200, 160);
        int[][] places = {{300, 0}, {0, 400}, {-500, 10}, {20, -600}, {700, 700}};
        for (int s = 0; s < places.length; s++) {
            Picking.station(n, places[s][0], places[s][1]);
            double dx = 130.0 - places[s][0], dy = -70.0 - places[s][1];
            Picking.hear(n, s, 1000, (int) Math.round(20.0 + Math.sqrt(dx * dx + dy * dy) / 10.0));
        }
        Check.due("vote of the test", n.vote(1000, 5, 400, 5), 0);
        return n;
    }

    // ---- searching

    private static void searched() {
        Check.says("SEARCHED: the node, depth and o with the least COST, the first of these, are the EVENT's then");
        // all STATIONS lie on one line: x and -x are alike
        Net n = new Net();
        n.layer(200, 160);
        int[] ys = {-750, -200, 250, 600};
        for (int s = 0; s < 4; s++) {
            Picking.station(n, 0, ys[s]);
            Picking.hear(n, s, 1000, (int) Math.round(Math.sqrt(1000.0 * 1000.0 + (double) ys[s] * ys[s]) / 10.0) - 80);
        }
        n.vote(1000, 0, 400, 4);
        Check.due("search", n.search(0, 1000, 0), 1);
        Check.due("the first of two", n.eventAt(0, 0), -1000.0);
        Check.due("y", n.eventAt(0, 1), 0.0);
        Check.due("z, the first of nine that are alike", n.eventAt(0, 2), 0.0);
        Check.says("SEARCHED: at each depths 0 .. 8 times that");
        Net deep = new Net();
        deep.layer(200, 160);
        int[] xs = {0, 300, -400, 700};
        for (int s = 0; s < 4; s++) {
            Picking.station(deep, xs[s], 0);
            Picking.hear(deep, s, 1000, (int) Math.round(Math.sqrt((double) xs[s] * xs[s] + 600.0 * 600.0) / 10.0));
        }
        deep.vote(1000, 0, 400, 4);
        deep.search(0, 1000, 75);
        Check.due("8 times 75", deep.eventAt(0, 2), 600.0);
        Check.due("x", deep.eventAt(0, 0), 0.0);
        deep.search(0, 1000, 50);
        Check.due("8 times 50", deep.eventAt(0, 2), 400.0);
        deep.search(0, 1000, 0);
        Check.due("0 by 0", deep.eventAt(0, 2), 0.0);
        Check.due("work rows", deep.count(7), 3);
        Check.due("no place()", deep.event(0, 3), Check.NONE);
        Check.says("SEARCHED: o is (the sum of QUALITY * (SAMPLE - ARRIVAL)) / the sum of QUALITY, of both PHASES");
        Net second = withSecond(80);
        second.vote(1000, 40, 400, 2);
        Check.due("members", second.event(0, 0), 5);
        second.search(0, 1000, 10);
        placedAt(second, 0, 0.0, 0.0, 0.0, 10.0);
        Check.due("COST", second.eventAt(0, 4), 0.0);
        second = withSecond(83);
        second.vote(1000, 40, 400, 2);
        second.search(0, 1000, 0);
        double above = 0.0, below = 0.0;
        for (int k = 0; k < 5; k++) {
            int pick = second.member(0, k);
            above = above + second.pick(pick, 3) * (second.pick(pick, 1) - (k == 2 ? 70.0 : 20.0 * (second.pick(pick, 0) + 1)));
            below = below + second.pick(pick, 3);
        }
        placedAt(second, 0, 0.0, 0.0, 0.0, above / below);
        Check.says("SEARCHED: nodes as of a VOTE");
        Net n2 = corner();
        n2.vote(1000, 0, 400, 2);
        n2.search(0, 500, 10);
        placedAt(n2, 0, 1000.0, 1000.0, 0.0, 10.0);
        n2.search(0, 900, 10);
        Check.due("800 is the last by 900", n2.eventAt(0, 0), 800.0);
        Check.due("800 is the last by 900", n2.eventAt(0, 1), 800.0);
    }

    // ---- errors

    private static void errors() {
        Check.says("error: has fewer than 4 members; COST / (members - 3)");
        Net n = withSecond(81);
        n.vote(1000, 0, 8, 2);
        Check.due("members", n.event(0, 0), 5);
        for (int k = 0; k < 3; k++) Check.must("an error", Check.number(n.error(0, k)) > 0.0);
        n.rework(2);
        n.rework(3);
        Check.due("members", n.event(0, 0), 3);
        Check.refuses("three", n, Check.STATE, m -> m.error(0, 0));
        Net four = withSecond(81);
        four.vote(1000, 0, 8, 2);
        four.rework(3);
        Check.due("three with PHASE 0 and one with PHASE 1", four.event(0, 0), 4);
        Check.must("are enough", Check.number(four.error(0, 2)) > 0.0);
        Net exact = Picking.shaken();
        exact.vote(1000, 0, 0, 2);
        for (int k = 0; k < 3; k++) Check.due("no COST", exact.error(0, k), 0.0);
        Check.due("is not refused", exact.code(), 0);
    }

    // ---- sizes

    private static double sizeBy(double height, double distance, int term) {
        return (ReferenceNet.log(height) + 1.5 * ReferenceNet.log(1.0 + distance)) + term / 16.0;
    }

    private static void sizes() {
        Check.says("SIZE: the middle one of these, in order; of an even number: (the lesser middle one + the greater) * 0.5");
        int[] heights = {1024, 64, 30000, 500}, terms = {0, 1000, -1000, 3};
        double[] all = new double[4];
        Net n = Picking.around();
        for (int s = 0; s < 4; s++) {
            Picking.hear(n, s, heights[s], 30 + 20 * s);
            n.term(s, terms[s]);
            all[s] = sizeBy(heights[s], 200.0 * (s + 1), terms[s]);
        }
        n.vote(1000, 0, 0, 2);
        double[] sorted = all.clone();
        java.util.Arrays.sort(sorted);
        Check.due("of four", n.size(0), (sorted[1] + sorted[2]) * 0.5);
        n.rework(1);
        double[] three = {all[0], all[2], all[3]};
        java.util.Arrays.sort(three);
        Check.due("of three", n.size(0), three[1]);
        n.rework(2);
        Check.due("of two", n.size(0), (Math.min(all[0], all[3]) + Math.max(all[0], all[3])) * 0.5);
        n.rework(3);
        Check.refuses("of none, as it is TAKEN BACK", n, Check.STATE, m -> m.size(0));
        Check.due("work rows", n.count(7), 4);
    }

    private static void sizesOfSilence() {
        Check.says("SIZE: of the members with PHASE 0 and an AMPLITUDE > 0.0");
        // a MATCH by what is past: the PICK itself, and all behind it, is silent
        for (int loud = 0; loud <= 2; loud++) {
            Net n = new Net();
            n.layer(200, 160);
            n.wave(0, 1);
            for (int s = 0; s < 2; s++) {
                n.station(0, 0, 1);
                n.picker(s, 2, 1, 2, 16);
                n.lane(1);
                n.raw(1000);
                n.swing(7, 0, 0);
                if (s < loud) n.raw(s == 0 ? 1 : 1 << 20);
                n.packet(s, 0, 1, 32);
                n.read(s, 9);
                Check.due("sample of the test", n.pick(s, 1), 7);
            }
            Check.due("vote", n.vote(1000, 0, 0, 2), 0);
            double far = Math.sqrt(1000.0 * 1000.0 + 1000.0 * 1000.0);
            double low = sizeBy(1.0, far, 0), high = sizeBy(1 << 20, far, 0);
            if (loud == 0) Check.refuses("of none", n, Check.STATE, m -> m.size(0));
            if (loud == 1) Check.due("of the one with 1.0", n.size(0), low);
            if (loud == 2) Check.due("of both", n.size(0), (low + high) * 0.5);
            Check.due("a work row, also where there is none", n.count(7), 1);
        }
        Check.says("SIZE: of the members with PHASE 0");
        Net n = withSecond(80);
        n.vote(1000, 0, 0, 2);
        long all = n.size(0);
        Net without = Picking.shaken();
        without.vote(1000, 0, 0, 2);
        Check.due("as without PHASE 1", all, without.size(0));
    }

    private static void logs() {
        Check.says("LOG(v), v > 0.0");
        int[] heights = {2, 3, 4, 1023, 1024, 1025};
        for (int h : heights) {
            Net n = Picking.around();
            for (int s = 0; s < 3; s++) Picking.hear(n, s, h, 30 + 20 * s);
            n.vote(1000, 0, 0, 3);
            Check.due("size by " + h, n.size(0), sizeBy(h, 400.0, 0));
            double plain = Math.log(h) / Math.log(2.0) + 1.5 * Math.log(401.0) / Math.log(2.0);
            Check.must("it is to the base 2", Math.abs(Check.number(n.size(0)) - plain) < 1e-9);
        }
        // 1 / 16 and less: the exponent is below 0
        Net n = new Net();
        n.layer(200, 160);
        for (int s = 0; s < 2; s++) {
            n.station(0, 0, 3);
            n.picker(s, 0, 1, 2, 16);
            n.calibrate(s, 0, 1, 1000);
            n.lane(3);
            n.swing(5, 0, 0);
            n.raw(1);
            n.packet(s, 0, 3, 32);
            n.read(s, 6);
        }
        n.vote(1000, 0, 0, 2);
        Check.due("size by 1 / 16000", n.size(0), sizeBy(0.0625 / 1000.0, Math.sqrt(2000000.0), 0));
    }

    // ---- swarms

    private static void swarming() {
        Check.says("swarms: (abs(dx) + abs(dy)) + abs(do) <= bound, or by others between");
        Net n = new Net();
        n.layer(200, 160);
        // 1000 from the first node, so that all ORIGINS are whole numbers
        for (int s = 0; s < 2; s++) {
            Picking.station(n, -400, -200);
            Picking.hearAnew(n, s, 3, 7, 15, 31, 51);
        }
        for (int e = 0; e < 5; e++) Check.due("vote", n.vote(1000, 0, 0, 2), e);
        int[] gap = {0, 4, 8, 16, 20};
        for (int e = 1; e < 5; e++) Check.must("so far apart", Check.number(n.eventAt(e, 3)) - Check.number(n.eventAt(e - 1, 3)) == gap[e]);
        for (int bound = 0; bound <= 24; bound++) {
            int groups = 1, leader = 0;
            int[] leaders = new int[5];
            for (int e = 1; e < 5; e++) {
                if (gap[e] > bound) {
                    groups++;
                    leader = e;
                }
                leaders[e] = leader;
            }
            Check.due("groups by " + bound, n.swarms(bound), groups);
            for (int e = 0; e < 5; e++) Check.due("its least one by " + bound, n.swarm(e), leaders[e]);
        }
    }

    private static void swarmsInGroups() {
        Check.says("swarms: how many groups; swarm: The least EVENT of the group");
        Net n = new Net();
        n.layer(200, 160);
        for (int s = 0; s < 2; s++) {
            Picking.station(n, -400, -200);
            Picking.hearAnew(n, s, 3, 40, 44, 90, 95, 99);
        }
        for (int e = 0; e < 6; e++) Check.due("vote", n.vote(1000, 0, 0, 2), e);
        int[][] leaders = {{0, 1, 2, 3, 4, 5}, {0, 1, 1, 3, 4, 4}, {0, 1, 1, 3, 3, 3}, {0, 0, 0, 3, 3, 3}, {0, 0, 0, 0, 0, 0}};
        int[] bounds = {3, 4, 5, 37, 46}, groups = {6, 4, 3, 2, 1};
        for (int i = 0; i < bounds.length; i++) {
            Check.due("groups by " + bounds[i], n.swarms(bounds[i]), groups[i]);
            for (int e = 0; e < 6; e++) Check.due("least one by " + bounds[i], n.swarm(e), leaders[i][e]);
        }
        Check.says("swarms: or by others between, whichever came first");
        Net m = new Net();
        m.layer(200, 160);
        for (int s = 0; s < 4; s++) {
            Picking.station(m, -400, -200);
            if (s < 2) Picking.hearAnew(m, s, 3, 23);
            else Picking.hearAnew(m, s, 13);
        }
        for (int e = 0; e < 3; e++) Check.due("vote", m.vote(1000, 0, 0, 2), e);
        Check.due("the last one lies between", m.eventAt(2, 3), Check.number(m.eventAt(0, 3)) + 10.0);
        Check.due("by 9", m.swarms(9), 3);
        Check.due("by 10", m.swarms(10), 1);
        for (int e = 0; e < 3; e++) Check.due("least one", m.swarm(e), 0);
    }

    private static void swarmsByPlace() {
        Check.says("swarms: by their places and ORIGINS; KNOWN EVENTS");
        Net n = new Net();
        n.layer(200, 160);
        // at -1000, 0 from 10 on and at 0, -1000 from 13 on: 2003 apart in all
        int[][] heard = {{-800, 0, 30}, {-1000, 400, 50}, {0, -800, 33}, {400, -1000, 53}};
        for (int s = 0; s < 4; s++) {
            Picking.station(n, heard[s][0], heard[s][1]);
            Picking.hear(n, s, 1000, heard[s][2]);
        }
        for (int e = 0; e < 2; e++) Check.due("vote", n.vote(1000, 0, 0, 2), e);
        for (int e = 0; e < 2; e++) Check.due("ahead of swarms()", n.swarm(e), Check.NONE);
        Check.due("2003 by 2002", n.swarms(2002), 2);
        Check.due("its own", n.swarm(1), 1);
        Check.due("2003 by 2003", n.swarms(2003), 1);
        Check.due("the least one", n.swarm(1), 0);
        n.rework(0);
        Check.due("as it was at the latest swarms()", n.swarm(1), 0);
        Check.due("one is known", n.swarms(100000), 1);
        Check.due("in none", n.swarm(0), Check.NONE);
        Check.due("by itself", n.swarm(1), 1);
        n.rework(2);
        Check.due("none is known", n.swarms(0), 0);
        Check.due("in none", n.swarm(1), Check.NONE);
    }

    public static void main(String[] args) {
        sixtyEvents();
        sixtyCandidates();
        tolerances();
        leastVotes();
        firstNode();
        gridEdges();
        firstCandidate();
        nearestMembers();
        secondPhases();
        secondPhasesAlone();
        takenBack();
        candidates();
        allStations();
        singularOnes();
        settled();
        stepsDone();
        searched();
        errors();
        sizes();
        sizesOfSilence();
        logs();
        swarming();
        swarmsInGroups();
        swarmsByPlace();
        Check.end("events");
    }
}
