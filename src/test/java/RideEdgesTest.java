/**
 * Parts 1 to 3 of the document's terms and promises 1 to 19, sentence by sentence: each one that names a boundary
 * case has a test of its own, which bears the sentence's words.
 */
public final class RideEdgesTest {
    public static void main(String[] args) {
        cageZeroIsAtZeroToDeep();
        topSpeedIsAllowedAndNoMore();
        speedsDifferByChangeAtMost();
        zonesUpToSix();
        wayHasBothItsEnds();
        deepLessSomePlaceIsInZone();
        speedOfZoneIsAllowedAndNoMore();
        zonesThatOverlap();
        allPlacesAreZeroToDeep();
        firstAndLastSpeedAreChangeAtMost();
        farthestTowardTheEnd();
        toPlaceItselfNoTicks();
        greatestSpeedIsZeroToTop();
        noSuchTick();
        shaftTakesZonesAndStopsAway();
        ridesByTheLawsAsTheyAre();
        ridesToOnePlaceFromBothSides();
        stopsUpToSix();
        bellKeepsItsLatestCount();
        linksAreClosedAtFirst();
        middleOfThreeSenders();
        atRestOnlyTheCountChanges();
        speedMayBeAboveByTheMargin();
        zonesAtTold();
        brakeNotBeyondZero();
        placeNotBeyondTheEnds();
        brakedRideIsOver();
        restsBehindItsLastTick();
        greaterPullUpToRatio();
        slipsAsItComesToStand();
        leastRatioThatHolds();
        Due.end();
    }

    // ---- helpers

    private static int check(ShaftWinder x, int... speeds) {
        x.sheet(0, 2, speeds.length);
        for (int i = 0; i < speeds.length; i++) {
            x.put(0, 2, i, speeds[i]);
        }
        return x.check(0);
    }

    private static void speeds(String name, ShaftWinder x, int q, int... due) {
        Due.is(name + ", ticks", x.ticks(q), due.length);
        for (int t = 1; t <= due.length; t++) {
            Due.is(name + ", tick " + t, x.speed(q, t), due[t - 1]);
        }
    }

    private static void is(String name, ShaftWinder x, int place, int speed, int how) {
        Due.is(name + ", place", x.state(0), place);
        Due.is(name + ", speed", x.state(1), speed);
        Due.is(name + ", how", x.state(2), how);
    }

    // ---- part 1

    private static void cageZeroIsAtZeroToDeep() {
        int[] deeps = {10, 11, 100, 399, 400};
        for (int d : deeps) {
            ShaftWinder x = Made.at(d, 20, 5, 0);
            Due.is("P at first, " + d, x.state(0), 0);
            Due.is("as deep as D", x.ticks(d) > 0 ? 1 : 0, 1);
            Due.is("deeper than D", x.ticks(d + 1), -2);
            Due.is("above 0", x.ticks(-1), -2);
            x = Made.at(d, 20, 5, d);
            Due.is("P at the end, " + d, x.state(0), d);
            Due.is("and back", x.ticks(0), Made.at(d, 20, 5, 0).ticks(d));
        }
    }

    private static void topSpeedIsAllowedAndNoMore() {
        ShaftWinder x = Made.at(400, 20, 5, 0);
        Due.is("TOP 20", check(x, 5, 10, 15, 20, 20), 5);
        Due.is("above TOP 20", check(x, 5, 10, 15, 20, 21), 4);
        x = Made.at(400, 20, 5, 400);
        Due.is("TOP 20, up", check(x, -5, -10, -15, -20, -20), 5);
        Due.is("above TOP 20, up", check(x, -5, -10, -15, -20, -21), 4);
        x = Made.at(10, 1, 5, 5);
        Due.is("TOP 1", check(x, 1, -1, 1), 1003);
        Due.is("above TOP 1", check(x, 1, 2), 1);
        Due.is("above TOP 1, up", check(x, -1, -2), 1);
        Due.is("TOP 1, a ride", x.ticks(10), 5);
    }

    private static void speedsDifferByChangeAtMost() {
        ShaftWinder x = Made.at(100, 10, 2, 50);
        Due.is("more by A", check(x, 2, 4, 6), 3);
        Due.is("more by above A", check(x, 2, 5), 1);
        Due.is("less by A", check(x, 2, 4, 2), 1003);
        Due.is("less by above A", check(x, 2, 4, 1), 2);
        Due.is("from down to up by A", check(x, 1, -1), 1002);
        Due.is("from down to up by above A", check(x, 1, -2), 1);
        Due.is("from up to down by A", check(x, -2, 0, 2), 1003);
        Due.is("from up to down by above A", check(x, -2, 1), 1);
        Due.is("from a speed to standing in one tick by above A", check(x, 2, 4, 0), 2);
        x = Made.at(100, 20, 5, 50);
        Due.is("CHANGE 5", check(x, 5, 10), 2);
        Due.is("above CHANGE 5", check(x, 5, 11), 1);
        x = Made.at(100, 20, 1, 50);
        Due.is("CHANGE 1", check(x, 1, 2), 2);
        Due.is("above CHANGE 1", check(x, 1, 3), 1);
    }

    private static void zonesUpToSix() {
        ShaftWinder x = new ShaftWinder();
        for (int n = 1; n <= 6; n++) {
            Due.is("zone", x.zone(10 * n, 10 * n, 20), n);
            Due.is("zones", x.state(10), n);
        }
        Due.is("the seventh", x.zone(5, 5, 1), -3);
        Due.is("zones", x.state(10), 6);
        Due.is("the seventh does not hold", x.most(5, 1), 10);
        x.shaft(100, 10, 2);
        Due.is("again from 1", x.zone(5, 5, 1), 1);
    }

    private static void wayHasBothItsEnds() {
        ShaftWinder x = new ShaftWinder();
        x.zone(40, 44, 2);
        int[][] down = {{29, 10}, {30, 9}, {36, 3}, {37, 2}, {38, 2}, {39, 2}, {40, 2}, {44, 2}, {45, 10}};
        for (int[] d : down) {
            Due.is("most down from " + d[0], x.most(d[0], 1), d[1]);
        }
        int[][] up = {{55, 10}, {54, 9}, {48, 3}, {47, 2}, {46, 2}, {45, 2}, {44, 2}, {40, 2}, {39, 10}};
        for (int[] u : up) {
            Due.is("most up from " + u[0], x.most(u[0], -1), u[1]);
        }
        x = Made.at(100, 10, 5, 35);
        x.zone(40, 40, 4);
        Due.is("its last place is in a zone", check(x, 5), 0);
        Due.is("its last place is ahead of a zone", check(x, 4), 1001);
        x = Made.at(100, 10, 5, 40);
        x.zone(40, 40, 4);
        Due.is("its first place is in a zone", check(x, 5), 0);
        Due.is("its first place is in a zone, up", check(x, -5), 0);
        x = Made.at(100, 10, 5, 41);
        x.zone(40, 40, 4);
        Due.is("its first place is behind a zone", check(x, 5), 1001);
        x = Made.at(100, 10, 5, 38);
        x.zone(40, 40, 4);
        Due.is("a place between is in a zone", check(x, 5), 0);
    }

    private static void deepLessSomePlaceIsInZone() {
        ShaftWinder x = new ShaftWinder();
        x.zone(40, 44, 2);
        int[][] down = {{45, 10}, {46, 9}, {55, 2}, {56, 2}, {60, 2}, {61, 10}};
        for (int[] d : down) {
            Due.is("mirrored, most down from " + d[0], x.most(d[0], 1), d[1]);
        }
        int[][] up = {{71, 10}, {70, 9}, {61, 2}, {60, 2}, {56, 2}, {55, 10}};
        for (int[] u : up) {
            Due.is("mirrored, most up from " + u[0], x.most(u[0], -1), u[1]);
        }
        x = new ShaftWinder();
        x.zone(100, 100, 3);
        Due.is("mirrored to 0", x.most(0, 1), 3);
        Due.is("but not beyond", x.most(1, 1), 10);
        x = new ShaftWinder();
        x.shaft(11, 10, 5);
        x.zone(5, 5, 1);
        Due.is("mirrored next to it", x.most(6, 1) * 10 + x.most(7, 1), 14);
    }

    private static void speedOfZoneIsAllowedAndNoMore() {
        ShaftWinder x = Made.at(100, 10, 5, 0);
        x.zone(0, 100, 4);
        Due.is("the zone's speed", check(x, 4, 4), 1002);
        Due.is("above the zone's speed", check(x, 4, 5), 1);
        x = Made.at(100, 10, 5, 100);
        x.zone(0, 100, 4);
        Due.is("the zone's speed, up", check(x, -4, -4), 1002);
        Due.is("above the zone's speed, up", check(x, -4, -5), 1);
        x = Made.at(100, 20, 5, 0);
        x.zone(0, 100, 1);
        Due.is("speed 1", check(x, 1, 1), 1002);
        Due.is("above speed 1", check(x, 2), 0);
        Due.is("standing", check(x, 0, 0), 1002);
        Due.is("a ride at speed 1", x.ticks(100), 100);
        x = Made.at(100, 20, 5, 0);
        x.zone(0, 100, 20);
        Due.is("speed 20", check(x, 5, 10, 15, 20), 4);
        Due.is("TOP holds below a zone's speed", Made.at(100, 19, 5, 0).most(0, 1), 19);
        x = Made.at(100, 19, 5, 0);
        x.zone(0, 100, 20);
        Due.is("TOP holds in a faster zone", x.most(0, 1), 19);
    }

    private static void zonesThatOverlap() {
        int[][][] orders = {{{10, 20, 3}, {15, 30, 2}}, {{15, 30, 2}, {10, 20, 3}}};
        for (int[][] zones : orders) {
            ShaftWinder x = new ShaftWinder();
            x.zone(zones[0][0], zones[0][1], zones[0][2]);
            x.zone(zones[1][0], zones[1][1], zones[1][2]);
            int[][] due = {{9, 3}, {11, 3}, {12, 2}, {15, 2}, {20, 2}, {30, 2}, {31, 10}};
            for (int[] d : due) {
                Due.is("slowest zone from " + d[0], x.most(d[0], 1), d[1]);
            }
        }
    }

    private static void allPlacesAreZeroToDeep() {
        ShaftWinder x = Made.at(10, 10, 5, 0);
        Due.is("up to D", check(x, 5, 5), 1002);
        Due.is("beyond D", check(x, 5, 6), 1);
        Due.is("beyond D, slowly", check(x, 5, 5, 1), 2);
        Due.is("standing at D", check(x, 5, 5, 0), 1003);
        Due.is("beyond 0", check(x, -1), 0);
        x = Made.at(10, 10, 5, 10);
        Due.is("up to 0", check(x, -5, -5), 1002);
        Due.is("beyond 0", check(x, -5, -6), 1);
        Due.is("beyond 0, slowly", check(x, -5, -5, -1), 2);
        Due.is("beyond D", check(x, 1), 0);
        Due.is("the greatest of ints", check(x, Integer.MAX_VALUE), 0);
        Due.is("the least of ints", check(x, Integer.MIN_VALUE), 0);
        Due.is("the ints' ends behind a speed", check(x, -5, Integer.MAX_VALUE) * 10 + check(x, -5, Integer.MIN_VALUE), 11);
    }

    private static void firstAndLastSpeedAreChangeAtMost() {
        ShaftWinder x = Made.at(100, 10, 3, 50);
        Due.is("first A", check(x, 3), 1001);
        Due.is("first above A", check(x, 4), 0);
        Due.is("first A, up", check(x, -3), 1001);
        Due.is("first above A, up", check(x, -4), 0);
        Due.is("last A", check(x, 3, 6, 3), 1003);
        Due.is("last above A", check(x, 3, 6, 4), 3);
        Due.is("last A, up", check(x, -3, -6, -3), 1003);
        Due.is("last above A, up", check(x, -3, -6, -4), 3);
        speeds("one tick", x, 53, 3);
        speeds("a place more", x, 54, 3, 1);
        speeds("two ticks", x, 56, 3, 3);
        speeds("a place more", x, 57, 3, 3, 1);
        speeds("three ticks", x, 62, 3, 6, 3);
        speeds("a place more", x, 63, 3, 6, 3, 1);
        speeds("one tick up", x, 47, -3);
        speeds("a place more, up", x, 46, -3, -1);
        speeds("three ticks up", x, 38, -3, -6, -3);
        speeds("a place more, up", x, 37, -3, -6, -3, -1);
    }

    private static void farthestTowardTheEnd() {
        ShaftWinder x = new ShaftWinder();
        speeds("2 1, not 1 2", x, 3, 2, 1);
        speeds("2 2 1, not 2 1 2 or 1 2 2", x, 5, 2, 2, 1);
        speeds("2 3 1, not 2 2 2", x, 6, 2, 3, 1);
        speeds("2 3 2, not 1 3 3", x, 7, 2, 3, 2);
        speeds("2 4 2 1", x, 9, 2, 4, 2, 1);
        speeds("2 4 3 1, not 2 3 3 2", x, 10, 2, 4, 3, 1);
        x = Made.at(100, 10, 2, 100);
        speeds("up: -2 -3 -1, not -2 -2 -2", x, 94, -2, -3, -1);
        speeds("up: -2 -4 -3 -1, not -2 -3 -3 -2", x, 90, -2, -4, -3, -1);
        x = new ShaftWinder();
        x.zone(10, 10, 2);
        speeds("ahead of a zone: 2 4 3 1, not 2 4 2 2", x, 10, 2, 4, 3, 1);
    }

    private static void toPlaceItselfNoTicks() {
        int[] places = {0, 37, 100};
        for (int p : places) {
            ShaftWinder x = Made.at(100, 10, 2, p);
            x.ratio(100);
            x.sheet(1, 0, 2);
            Due.is("ticks", x.ticks(p), 0);
            Due.is("speed", x.speed(p, 1), -1000);
            Due.is("plan", x.plan(1, p), 0);
            Due.is("slipAt", x.slipAt(p), -1);
            Due.is("hold", x.hold(p), 100);
            int ended = x.state(8);
            int stop = x.stop(p, 9);
            x.ring(9);
            Due.is("begin", x.begin(stop), 0);
            is("it rests on", x, p, 0, 0);
            Due.is("the bell is 0 then", x.state(3), 0);
            Due.is("no ride ended", x.state(8), ended);
            x.pass(1);
            is("it rests on", x, p, 0, 0);
            Due.is("no ride ended", x.state(8), ended);
        }
    }

    private static void greatestSpeedIsZeroToTop() {
        int[] tops = {1, 2, 19, 20};
        for (int v : tops) {
            ShaftWinder x = Made.at(40, v, 1, 0);
            Due.is("V", x.most(20, 1) * 100 + x.most(20, -1), v * 101);
            Due.is("V, just up to D", x.most(40 - v, 1), v);
            Due.is("one less", x.most(40 - v + 1, 1), v - 1);
            Due.is("V, just up to 0", x.most(v, -1), v);
            Due.is("one less", x.most(v - 1, -1), v - 1);
            Due.is("none at D", x.most(40, 1), 0);
            Due.is("none at 0", x.most(0, -1), 0);
        }
        Due.is("whatever CHANGE is", Made.at(40, 20, 1, 0).most(0, 1), 20);
    }

    private static void noSuchTick() {
        ShaftWinder x = new ShaftWinder();
        Due.is("tick 1", x.speed(18, 1), 2);
        Due.is("the last", x.speed(18, 5), 2);
        Due.is("behind the last", x.speed(18, 6), -1000);
        Due.is("tick 0", x.speed(18, 0), -1000);
        Due.is("tick -1", x.speed(18, -1), -1000);
        x = Made.at(400, 1, 1, 0);
        Due.is("tick 400", x.speed(400, 400), 1);
        Due.is("tick 401", x.speed(400, 401), -1000);
    }

    private static void shaftTakesZonesAndStopsAway() {
        ShaftWinder x = Made.at(100, 10, 2, 70);
        x.zone(0, 100, 1);
        Due.is("as it was, too", x.shaft(100, 10, 2), 1);
        Due.is("no zones, no stops, P 0", x.state(10) * 10000 + x.state(11) * 1000 + x.state(0), 0);
        Due.is("no zones", x.most(0, 1), 10);
        x.ring(1);
        Due.is("no stops", x.begin(0), -2);
        Due.is("shallower than P was", Made.at(400, 20, 5, 400).shaft(10, 1, 1), 1);
    }

    /** Asked ahead of a change of the laws and behind it, to the same place. */
    private static void ridesByTheLawsAsTheyAre() {
        int[] ends = {0, 1, 2, 99, 100};
        for (int q : ends) {
            ShaftWinder x = Made.at(100, 10, 2, 50);
            Due.is("ahead of a zone, to " + q, x.ticks(q), 9);
            x.zone(0, 100, 1);
            Due.is("behind a zone, to " + q, x.ticks(q), Math.abs(q - 50));
            x.shaft(100, 1, 1);
            Due.is("another shaft, to " + q, x.ticks(q), q);
            x.shaft(100, 20, 5);
            Due.is("yet another, to " + q, x.ticks(q), q == 0 ? 0 : q <= 2 ? 1 : 8);
        }
    }

    /** A shift's ride comes from 0, the one that is asked next from the other side. */
    private static void ridesToOnePlaceFromBothSides() {
        ShaftWinder x = Made.at(100, 10, 2, 100);
        x.zone(20, 28, 2);
        Due.is("from 0", x.shift(30, 1, 1, 0), 11);
        // 5 ticks to 81, 5 by 2 to 71, then 4 6 8 .. to 30, which 7 more do not reach.
        Due.is("from 100", x.ticks(30), 18);
        Due.is("from 0 again", x.shift(30, 1, 1, 0), 11);
        Due.is("from 100 again", x.slipAt(30) * 100 + x.hold(30), 50);
    }

    // ---- part 2

    private static void stopsUpToSix() {
        ShaftWinder x = new ShaftWinder();
        int[] places = {0, 100, 0, 50, 50, 100};
        for (int n = 0; n < 6; n++) {
            Due.is("no such stop yet", x.begin(n), -2);
            Due.is("stop", x.stop(places[n], n == 0 ? 1 : 9), n);
            Due.is("stops", x.state(11), n + 1);
        }
        Due.is("the seventh", x.stop(1, 1), -3);
        Due.is("no seventh", x.begin(6), -2);
        Due.is("stops", x.state(11), 6);
        for (int n = 0; n < 6; n++) {
            x.ring(n == 0 ? 1 : 9);
            Due.is("ride", x.begin(n) >= 0 ? 1 : 0, 1);
            x.pass(30);
            Due.is("its place", x.state(0), places[n]);
        }
        x.shaft(100, 10, 2);
        Due.is("again from 0", x.stop(1, 1), 0);
    }

    private static void bellKeepsItsLatestCount() {
        ShaftWinder x = new ShaftWinder();
        x.stop(8, 1);
        x.stop(20, 9);
        Due.is("0 at first", x.state(3), 0);
        Due.is("0 is nobody's code", x.begin(0) + x.begin(1), -8);
        x.ring(9);
        x.ring(1);
        Due.is("not the one before", x.begin(1), -4);
        Due.is("the latest", x.begin(0), 3);
        Due.is("it is 0 then", x.state(3), 0);
        x.pass(3);
        Due.is("it is 0 still", x.begin(1), -4);
        x.ring(9);
        x.pass(400);
        Due.is("ticks leave it", x.state(3), 9);
        Due.is("the greatest code", x.begin(1), 4);
        x.ring(1);
        Due.is("rung on the way", x.state(3), 1);
        x.pass(400);
        Due.is("rung on the way, used behind it", x.begin(0), 4);
    }

    private static void linksAreClosedAtFirst() {
        for (int l = 0; l < 8; l++) {
            ShaftWinder x = new ShaftWinder();
            x.stop(8, 1);
            x.ring(1);
            Due.is("all closed", x.state(4), 0);
            x.link(l, false);
            Due.is("one open", x.state(4), 1);
            Due.is("one open", x.begin(0), -4);
            Due.is("the bell stays", x.state(3), 1);
            x.link((l + 1) % 8, true);
            Due.is("another closed", x.begin(0), -4);
            x.link(l, true);
            Due.is("closed", x.begin(0), 3);
            x.link(l, false);
            Due.is("open on the way", x.pass(1), 0);
            Due.is("braked", x.state(9), 1);
        }
    }

    private static void middleOfThreeSenders() {
        int[][] errors = {{1, 2, 3, 2}, {1, 3, 2, 2}, {2, 1, 3, 2}, {2, 3, 1, 2}, {3, 1, 2, 2}, {3, 2, 1, 2}, {5, 5, 1, 5},
            {5, 1, 5, 5}, {1, 5, 5, 5}, {5, 5, 9, 5}, {5, 9, 5, 5}, {9, 5, 5, 5}, {-7, -7, -7, -7}, {-1000, 1000, 0, 0},
            {1000, 1000, -1000, 1000}, {-1000, 1000, -1000, -1000}, {1000, 1000, 1000, 1000}};
        int[] places = {0, 60, 100};
        for (int p : places) {
            ShaftWinder x = Made.at(100, 10, 2, p);
            Due.is("no error at first", x.state(5), p);
            for (int[] e : errors) {
                for (int sender = 0; sender < 3; sender++) {
                    x.error(sender, e[sender]);
                }
                Due.is("told", x.state(5), p + e[3]);
            }
        }
    }

    private static void atRestOnlyTheCountChanges() {
        ShaftWinder x = Made.at(100, 10, 2, 40);
        x.zone(0, 100, 1);
        x.ring(3);
        x.link(2, false);
        x.guard(0, 1);
        int[] before = new int[13];
        for (int what = 0; what <= 12; what++) {
            before[what] = x.state(what);
        }
        Due.is("one tick", x.pass(1), 0);
        Due.is("the most ticks", x.pass(400), 0);
        for (int what = 0; what <= 12; what++) {
            Due.is("state " + what, x.state(what), before[what] + (what == 6 ? 401 : 0));
        }
    }

    /** On the way at speeds 1 to 20 in ticks 1 to 20 a zone of speed w is told: the tick in which it brakes. */
    private static int tickInWhichItBrakes(int w, int margin, int way) {
        ShaftWinder x = Made.at(400, 20, 1, way > 0 ? 0 : 400);
        x.zone(0, 0, w);
        int stop = x.stop(way > 0 ? 400 : 0, 2);
        x.ring(2);
        x.begin(stop);
        x.guard(margin, 1);
        for (int tick = 1; tick <= 20; tick++) {
            x.error(0, -x.state(0));
            x.error(1, -x.state(0));
            if (x.pass(1) != 1 || x.state(9) > 0) {
                return tick;
            }
        }
        return 21;
    }

    private static void speedMayBeAboveByTheMargin() {
        int[][] due = {{1, 0, 2}, {1, 1, 3}, {1, 2, 4}, {3, 0, 4}, {3, 4, 8}, {1, 10, 12}, {5, 10, 16}, {1, 17, 19}, {1, 18, 20},
            {1, 19, 21}, {1, 20, 21}, {18, 0, 19}, {19, 0, 20}, {20, 0, 21}};
        for (int[] d : due) {
            Due.is("speed " + d[0] + ", margin " + d[1] + ", down", tickInWhichItBrakes(d[0], d[1], 1), d[2]);
            Due.is("speed " + d[0] + ", margin " + d[1] + ", up", tickInWhichItBrakes(d[0], d[1], -1), d[2]);
        }
    }

    /** At 22, the next speed -8, with MARGIN 0: whether it brakes as such a place is told. */
    private static boolean brakesAsTold(int told, int... slower) {
        ShaftWinder x = Made.riding(100, 10, 2, 34);
        x.pass(400);
        x.zone(60, 62, 7);
        for (int w : slower) {
            x.zone(62, 63, w);
        }
        x.stop(2, 2);
        x.ring(2);
        x.begin(1);
        x.pass(3);
        is("ahead of what is told", x, 22, -6, 1);
        x.guard(0, 1);
        x.error(1, told - 22);
        x.error(2, told - 22);
        return x.pass(1) == 2;
    }

    private static void zonesAtTold() {
        int[] in = {60, 61, 62, 40, 39, 38};
        for (int told : in) {
            Due.is("told " + told, brakesAsTold(told) ? 1 : 0, 1);
        }
        int[] out = {59, 63, 41, 37, 0, 100, -1, 101, -60, 160, -62, 162, 1022, -978};
        for (int told : out) {
            Due.is("told " + told, brakesAsTold(told) ? 1 : 0, 0);
        }
        Due.is("the slowest zone at 62", brakesAsTold(62, 8) ? 1 : 0, 1);
        Due.is("the other zone at 63", brakesAsTold(63, 8) ? 1 : 0, 0);
        Due.is("the other zone at 63", brakesAsTold(63, 7) ? 1 : 0, 1);
        Due.is("the slowest of three at 63", brakesAsTold(63, 20, 7) ? 1 : 0, 1);
        Due.is("the slowest of three at 63", brakesAsTold(63, 7, 20) ? 1 : 0, 1);
        Due.is("the slowest of three at 63", brakesAsTold(63, 8, 20) ? 1 : 0, 0);
    }

    private static void brakeNotBeyondZero() {
        int[][] due = {{1, 7}, {2, 6}, {3, 5}, {7, 1}, {8, 0}, {9, 0}, {10, 0}};
        for (int[] d : due) {
            ShaftWinder x = Made.riding(100, 8, 4, 100);
            x.pass(4);
            x.guard(0, d[0]);
            is("at its top", x, 28, 8, 1);
            x.link(0, false);
            x.pass(1);
            is("down, brake " + d[0], x, 28 + d[1], d[1], d[1] > 0 ? 2 : 0);
            x = Made.at(100, 8, 4, 100);
            x.stop(0, 2);
            x.ring(2);
            x.begin(1);
            x.pass(4);
            x.guard(0, d[0]);
            x.link(0, false);
            x.pass(1);
            is("up, brake " + d[0], x, 72 - d[1], -d[1], d[1] > 0 ? 2 : 0);
        }
        ShaftWinder x = Made.riding(100, 8, 4, 100);
        x.pass(2);
        x.link(0, false);
        x.pass(1);
        is("3 at first", x, 12 + 5, 5, 2);
        x.guard(0, 10);
        x.pass(1);
        is("another brake, then it rests", x, 17, 0, 0);
    }

    /** Braked by 1 at speed 10, so that it goes on by 9: to one place ahead of the end, to the end, beyond it. */
    private static void placeNotBeyondTheEnds() {
        int[][] due = {{95, 94, 9, 2}, {94, 94, 9, 2}, {93, 93, 0, 0}, {90, 90, 0, 0}};
        for (int[] d : due) {
            ShaftWinder down = Made.riding(d[0], 10, 5, d[0]);
            brakeLate("down, D " + d[0], down, d[0], 1, d);
            ShaftWinder up = Made.at(d[0], 10, 5, d[0]);
            up.stop(0, 2);
            up.ring(2);
            up.begin(1);
            brakeLate("up, D " + d[0], up, d[0], -1, d);
        }
    }

    private static void brakeLate(String name, ShaftWinder x, int deep, int way, int[] due) {
        x.guard(20, 1);
        x.pass(9);
        is(name + ", fast", x, way > 0 ? 85 : deep - 85, 10 * way, 1);
        x.link(0, false);
        Due.is(name, x.pass(1), due[3]);
        is(name, x, way > 0 ? due[1] : deep - due[1], due[2] * way, due[3]);
        Due.is(name + ", then it rests", x.pass(1), 0);
        is(name + ", then it rests", x, way > 0 ? deep : 0, 0, 0);
    }

    private static void brakedRideIsOver() {
        ShaftWinder x = Made.riding(100, 10, 2, 100);
        x.pass(5);
        x.link(0, false);
        x.pass(1);
        Due.is("none of its ticks are left", x.state(7), 0);
        Due.is("braked once", x.state(9), 1);
        x.link(0, true);
        x.pass(1);
        Due.is("closed again, it brakes on", x.state(2), 2);
        Due.is("braked once", x.state(9), 1);
        x.pass(400);
        Due.is("it does not go on", x.state(0), 30 + 7 + 4 + 1);
        Due.is("it did not end", x.state(8), 0);
        Due.is("braked once", x.state(9), 1);
        int ticks = x.ticks(100);
        x.ring(1);
        Due.is("another ride", x.begin(0), ticks);
    }

    private static void restsBehindItsLastTick() {
        ShaftWinder x = Made.riding(100, 10, 2, 18);
        Due.is("one ahead", x.pass(4), 1);
        is("one ahead", x, 16, 4, 1);
        Due.is("one left", x.state(7), 1);
        Due.is("the last", x.pass(1), 0);
        is("the last", x, 18, 0, 0);
        Due.is("ended", x.state(8) * 10 + x.state(7), 10);
        x = Made.riding(100, 10, 2, 18);
        Due.is("more ticks than it has", x.pass(400), 0);
        is("more ticks than it has", x, 18, 0, 0);
        Due.is("all ticks are counted", x.state(6), 400);
        Due.is("ended once", x.state(8), 1);
        x = Made.riding(400, 1, 1, 400);
        Due.is("the longest ride, one left", x.pass(399) * 10 + x.state(7), 11);
        Due.is("the longest ride", x.pass(1) * 1000 + x.state(0), 400);
        x = Made.riding(400, 1, 1, 400);
        Due.is("the longest ride in one call", x.pass(400) * 1000 + x.state(0), 400);
    }

    // ---- part 3

    private static void greaterPullUpToRatio() {
        ShaftWinder x = Made.at(400, 20, 5, 0);
        x.loads(1000, 1000, 10);
        // At 0 it is 1001 to 5001 at rest, at 400 the other way round: 499.6 hundredths.
        Due.is("beyond 400 hundredths at both ends", x.slips(0, 0) * 10 + x.slips(400, 0), 11);
        x.loads(1000, 0, 10);
        x.ratio(400);
        // At 0: 1001 * (10 less c) to 4001 * (10 and c).
        Due.is("399.7 hundredths", x.slips(0, 0), 0);
        Due.is("more by a change", x.slips(0, 1), 1);
        Due.is("less by a change", x.slips(0, -1), 0);
        x.loads(0, 0, 0);
        int[][] due = {{100, 0, 0}, {100, 1, 1}, {122, 1, 1}, {123, 1, 0}, {399, 6, 1}, {400, 6, 0}, {400, 7, 1}, {400, 9, 1}};
        for (int[] d : due) {
            x.ratio(d[0]);
            Due.is("ratio " + d[0] + ", change " + d[1], x.slips(200, d[1]), d[2]);
            Due.is("ratio " + d[0] + ", change -" + d[1], x.slips(200, -d[1]), d[2]);
        }
    }

    private static void slipsAsItComesToStand() {
        ShaftWinder x = new ShaftWinder();
        x.loads(120, 100, 0);
        // Cage 0 pulls 121 * 12 to 101 * 8 as the speed becomes less by 2: 179.8 hundredths.
        x.ratio(179);
        Due.is("2, then it stands", x.slipAt(2), 2);
        Due.is("2 1, then it stands", x.slipAt(3), -1);
        Due.is("2 2, then it stands", x.slipAt(4), 3);
        Due.is("2 4 2", x.slipAt(8), 3);
        x.ratio(180);
        Due.is("it holds", x.slipAt(2) + x.slipAt(4) + x.slipAt(8), -3);
        x.loads(100, 120, 0);
        x.ratio(179);
        Due.is("as it begins", x.slipAt(2) * 100 + x.slipAt(4) * 10 + x.slipAt(8), 111);
        x.ratio(180);
        Due.is("it holds", x.slipAt(2) + x.slipAt(4) + x.slipAt(8), -3);
        x = Made.at(400, 1, 1, 0);
        x.ratio(122);
        Due.is("the longest, at first", x.slipAt(400), 1);
        x.loads(110, 100, 0);
        Due.is("the longest, as it comes to stand", x.slipAt(400), 401);
        x.ratio(400);
        Due.is("the longest, in none", x.slipAt(400), -1);
    }

    private static void leastRatioThatHolds() {
        int[][] due = {{0, 0, 150}, {99, 265, 399}, {74, 199, 400}, {73, 199, -1}, {199, 74, 400}, {199, 73, -1}, {1000, 0, -1}};
        for (int[] d : due) {
            ShaftWinder x = new ShaftWinder();
            x.loads(d[0], d[1], 0);
            String name = "loads " + d[0] + " " + d[1];
            Due.is(name, x.hold(4), d[2]);
            Due.is(name + ", without ticks", x.hold(0), 100);
            if (d[2] > 0) {
                x.ratio(d[2]);
                Due.is(name + ", it holds", x.slipAt(4), -1);
                x.ratio(d[2] - 1);
                Due.isNot(name + ", it slips", x.slipAt(4), -1);
            }
        }
        ShaftWinder x = Made.at(10, 1, 1, 0);
        x.loads(9, 10, 0);
        // Up to 11 * 11 to 10 * 9 as it begins: 134.4 hundredths.
        Due.is("whatever the ratio is", x.hold(10) * 1000 + x.ratio(100), 135400);
        Due.is("whatever the ratio is", x.hold(10), 135);
    }
}
