/** Promises 1 to 7: a new object, shaft, zone, stop, most, ticks, speed. */
public final class ShaftTest {
    private static final int LEAST = Integer.MIN_VALUE, GREATEST = Integer.MAX_VALUE;

    public static void main(String[] args) {
        newObject();
        shaft();
        zone();
        stop();
        most();
        ticks();
        speed();
        riding();
        Due.end();
    }

    private static ShaftWinder onTheWay() {
        ShaftWinder x = new ShaftWinder();
        x.stop(100, 1);
        x.ring(1);
        x.begin(0);
        return x;
    }

    private static void newObject() {
        ShaftWinder x = new ShaftWinder();
        for (int what = 0; what <= 12; what++) {
            Due.is("1: state " + what, x.state(what), 0);
        }
        Due.is("1: deep", x.ticks(100), 14);
        Due.is("1: not deeper", x.ticks(101), -2);
        Due.is("1: top", x.most(50, 1), 10);
        Due.is("1: change", x.speed(100, 1), 2);
        Due.is("1: loads and weight", x.slips(0, 6), 0);
        Due.is("1: loads and weight", x.slips(100, 7), 1);
        Due.is("1: ratio", x.ratio(400), 400);
        Due.is("1: lays", x.worst(60), 0);
        Due.is("1: no stop", x.begin(0), -2);
        Due.is("1: log", x.log(0, 0), -2000);
        for (int s = 0; s < 4; s++) {
            Due.is("1: sheet", x.lose(s), -11);
        }
        Due.is("1: constants", ShaftWinder.NONE * 1000 + ShaftWinder.BAD * 100 + ShaftWinder.FULL * 10
            + ShaftWinder.NOT, -1234);
    }

    private static void shaft() {
        ShaftWinder x = new ShaftWinder();
        int[][] bad = {{9, 5, 2}, {401, 5, 2}, {50, 0, 2}, {50, 21, 2}, {50, 5, 0}, {50, 5, 6}, {-50, 5, 2},
            {LEAST, 5, 2}, {GREATEST, 5, 2}, {50, LEAST, 2}, {50, GREATEST, 2}, {50, 5, LEAST}, {50, 5, GREATEST}};
        for (int[] b : bad) {
            Due.is("2: bad", x.shaft(b[0], b[1], b[2]), -2);
        }
        Due.is("2: as it was", x.ticks(100), 14);
        Due.is("2: least", x.shaft(10, 1, 1), 1);
        Due.is("2: deep", x.most(10, 1) + x.most(9, 1) + x.most(11, 1), -1);
        Due.is("2: greatest", x.shaft(400, 20, 5), 1);
        Due.is("2: deep", x.ticks(401), -2);
        Due.is("2: top", x.most(0, 1), 20);
        Due.is("2: change", x.speed(400, 1), 5);
        x.zone(0, 400, 1);
        x.stop(7, 1);
        x.ring(1);
        x.begin(0);
        x.pass(400);
        x.ring(4);
        x.error(0, 9);
        x.link(2, false);
        x.loads(500, 500, 0);
        x.broken(1, 2);
        Due.is("2: anew", x.shaft(80, 6, 3), 1);
        int[] due = {0, 0, 0, 4, 1, 0, 400, 0, 1, 0, 0, 0, 0};
        for (int what = 0; what < due.length; what++) {
            Due.is("2: state " + what, x.state(what), due[what]);
        }
        Due.is("2: no zones", x.most(0, 1), 6);
        Due.is("2: no stops", x.begin(0), -2);
        Due.is("2: lays stay", x.worst(60), 2);
        Due.is("2: loads stay", x.slips(0, 6) * 10 + x.slips(0, 7), 1);
        Due.is("2: log stays", x.log(0, 0), 7);
    }

    private static void zone() {
        ShaftWinder x = new ShaftWinder();
        int[][] bad = {{-1, 5, 2}, {5, 101, 2}, {6, 5, 2}, {101, 101, 2}, {5, 6, 0}, {5, 6, 21}, {-2, -1, 2},
            {LEAST, 5, 2}, {5, GREATEST, 2}, {5, 6, LEAST}, {5, 6, GREATEST}};
        for (int[] b : bad) {
            Due.is("3: bad", x.zone(b[0], b[1], b[2]), -2);
        }
        Due.is("3: none", x.state(10), 0);
        Due.is("3: one place", x.zone(30, 30, 3), 1);
        Due.is("3: ahead", x.most(19, 1) * 100 + x.most(20, 1) * 10 + x.most(26, 1), 1000 + 90 + 3);
        Due.is("3: in it", x.most(30, 1) * 10 + x.most(30, -1), 33);
        Due.is("3: behind", x.most(31, 1) * 100 + x.most(31, -1), 1003);
        Due.is("3: mirrored", x.most(70, 1) * 10 + x.most(70, -1), 33);
        Due.is("3: whole", x.zone(0, 100, 20), 2);
        Due.is("3: above top", x.most(0, 1), 10);
        Due.is("3: slowest holds", x.zone(25, 35, 5), 3);
        Due.is("3: slowest holds", x.most(29, 1) * 10 + x.most(35, 1), 35);
        Due.is("3: edges", x.zone(0, 0, 1), 4);
        Due.is("3: edges", x.most(0, 1) * 10 + x.most(100, -1), 11);
        Due.is("3: five", x.zone(50, 50, 1), 5);
        Due.is("3: six", x.zone(50, 50, 1), 6);
        Due.is("3: full", x.zone(50, 50, 1), -3);
        Due.is("3: bad ahead of full", x.zone(50, 50, 0), -2);
        Due.is("3: six", x.state(10), 6);
        x.stop(90, 2);
        x.ring(2);
        x.begin(0);
        Due.is("3: full ahead of not", x.zone(50, 50, 1), -3);
    }

    private static void stop() {
        ShaftWinder x = new ShaftWinder();
        int[][] bad = {{-1, 1}, {101, 1}, {5, 0}, {5, 10}, {LEAST, 1}, {GREATEST, 1}, {5, LEAST}, {5, GREATEST}};
        for (int[] b : bad) {
            Due.is("4: bad", x.stop(b[0], b[1]), -2);
        }
        for (int n = 0; n < 6; n++) {
            Due.is("4: number", x.stop(n * 20, n < 3 ? 1 : 9), n);
            Due.is("4: stops", x.state(11), n + 1);
        }
        Due.is("4: full", x.stop(3, 3), -3);
        Due.is("4: bad ahead of full", x.stop(3, 10), -2);
        Due.is("4: stops", x.state(11), 6);
        x.ring(9);
        Due.is("4: place", x.begin(5), 14);
    }

    private static void most() {
        ShaftWinder x = new ShaftWinder();
        int[][] bad = {{-1, 1}, {101, -1}, {5, 0}, {5, 2}, {5, -2}, {LEAST, 1}, {GREATEST, 1}, {5, LEAST}, {5, GREATEST}};
        for (int[] b : bad) {
            Due.is("5: bad", x.most(b[0], b[1]), -2);
        }
        Due.is("5: shaft's end", x.most(95, 1) * 100 + x.most(90, 1), 510);
        Due.is("5: shaft's top", x.most(4, -1) * 100 + x.most(10, -1), 410);
        Due.is("5: none", x.most(0, -1) + x.most(100, 1), 0);
        x.zone(20, 22, 6);
        // A tick by 8 would touch 20, where 6 is the most; by 7 it ends just ahead.
        Due.is("5: up to the zone", x.most(12, 1), 7);
        Due.is("5: into the zone", x.most(14, 1), 6);
        Due.is("5: out of the zone", x.most(22, 1) * 100 + x.most(23, 1), 610);
        ShaftWinder y = onTheWay();
        y.pass(2);
        Due.is("5: while it rides", y.most(50, -1), 10);
    }

    private static void ticks() {
        ShaftWinder x = new ShaftWinder();
        int[][] far = {{0, 0}, {1, 1}, {2, 1}, {3, 2}, {4, 2}, {5, 3}, {8, 3}, {9, 4}, {12, 4}, {13, 5}, {18, 5}, {19, 6},
            {24, 6}, {25, 7}, {30, 7}, {50, 9}, {60, 10}, {61, 11}};
        for (int[] f : far) {
            Due.is("6: to " + f[0], x.ticks(f[0]), f[1]);
        }
        Due.is("6: bad", x.ticks(-1) + x.ticks(101), -4);
        Due.is("6: bad", x.ticks(LEAST) + x.ticks(GREATEST), -4);
        x.shaft(400, 1, 5);
        Due.is("6: longest", x.ticks(400), 400);
        x.shaft(400, 20, 5);
        Due.is("6: faster", x.ticks(400), 23);
        x.zone(0, 400, 1);
        Due.is("6: slow all the way", x.ticks(400), 400);
        x.shaft(10, 20, 5);
        Due.is("6: short", x.ticks(10), 2);
        Due.is("6: once more", x.ticks(9) * 10 + x.ticks(10), 22);
    }

    private static void speed() {
        ShaftWinder x = new ShaftWinder();
        int[] to19 = {2, 4, 6, 4, 2, 1};
        for (int t = 1; t <= 6; t++) {
            Due.is("7: to 19, tick " + t, x.speed(19, t), to19[t - 1]);
        }
        int[] to9 = {2, 4, 2, 1};
        for (int t = 1; t <= 4; t++) {
            Due.is("7: to 9, tick " + t, x.speed(9, t), to9[t - 1]);
        }
        Due.is("7: first farthest", x.speed(3, 1) * 10 + x.speed(3, 2), 21);
        Due.is("7: no such tick", x.speed(9, 5) + x.speed(9, 0) + x.speed(9, -1), -3000);
        Due.is("7: no such tick", x.speed(9, LEAST) + x.speed(9, GREATEST), -2000);
        Due.is("7: no ticks", x.speed(0, 1), -1000);
        Due.is("7: bad", x.speed(-1, 1), -2000);
        Due.is("7: bad", x.speed(101, 0), -2000);
        Due.is("7: bad", x.speed(LEAST, 1), -2000);
        x.stop(100, 1);
        x.ring(1);
        x.begin(0);
        x.pass(400);
        Due.is("7: up", x.speed(81, 1) * 100 + x.speed(81, 6), -201);
    }

    private static void riding() {
        ShaftWinder x = onTheWay();
        Due.is("2: not", x.shaft(100, 10, 2), -4);
        Due.is("2: bad ahead of not", x.shaft(9, 10, 2), -2);
        Due.is("3: not", x.zone(0, 1, 1), -4);
        Due.is("3: bad ahead of not", x.zone(1, 0, 1), -2);
        Due.is("4: while it rides", x.stop(5, 5), 1);
        Due.is("6: not", x.ticks(100), -4);
        Due.is("6: bad ahead of not", x.ticks(101), -2);
        Due.is("7: not", x.speed(100, 1), -3000);
        Due.is("7: bad ahead of not", x.speed(101, 1), -2000);
        Due.is("7: not, no such tick", x.speed(100, 0), -3000);
        Due.is("refusals changed nothing", x.state(7) * 1000 + x.state(10) * 10 + x.state(11), 14002);
        x.pass(4);
        x.link(0, false);
        x.guard(20, 1);
        Due.is("it brakes", x.pass(1), 2);
        Due.is("2: not", x.shaft(100, 10, 2), -4);
        Due.is("3: not", x.zone(0, 1, 1), -4);
        Due.is("6: not", x.ticks(100), -4);
        Due.is("7: not", x.speed(100, 1), -3000);
    }
}
