/** Promises 15 to 19: loads, ratio, slips, slipAt, hold. */
public final class PullsTest {
    private static final int LEAST = Integer.MIN_VALUE, GREATEST = Integer.MAX_VALUE;

    public static void main(String[] args) {
        loads();
        ratio();
        slips();
        slipAt();
        hold();
        riding();
        Due.end();
    }

    private static void loads() {
        ShaftWinder x = new ShaftWinder();
        Due.is("15: greatest", x.loads(1000, 1000, 10), 1);
        int[][] bad = {{-1, 0, 0}, {1001, 0, 0}, {0, -1, 0}, {0, 1001, 0}, {0, 0, -1}, {0, 0, 11}, {LEAST, 0, 0},
            {GREATEST, 0, 0}, {0, LEAST, 0}, {0, GREATEST, 0}, {0, 0, LEAST}, {0, 0, GREATEST}};
        for (int[] b : bad) {
            Due.is("15: bad", x.loads(b[0], b[1], b[2]), -2);
        }
        x.ratio(199);
        Due.is("15: as they were", x.slips(0, 0), 1);
        x.ratio(200);
        Due.is("15: 1001 and 2001", x.slips(0, 0), 0);
        Due.is("15: least", x.loads(0, 0, 0), 1);
        x.ratio(100);
        Due.is("15: 1 and 1", x.slips(0, 0), 0);
    }

    private static void ratio() {
        ShaftWinder x = new ShaftWinder();
        int[] bad = {99, 401, 0, -1, LEAST, GREATEST};
        for (int b : bad) {
            Due.is("16: bad", x.ratio(b), -2);
        }
        Due.is("16: at first", x.ratio(100), 400);
        Due.is("16: what it was", x.ratio(250), 100);
        Due.is("16: bad", x.ratio(401), -2);
        Due.is("16: what it was", x.ratio(400), 250);
    }

    private static void slips() {
        ShaftWinder x = new ShaftWinder();
        int[][] bad = {{-1, 0}, {101, 0}, {5, -10}, {5, 10}, {LEAST, 0}, {GREATEST, 0}, {5, LEAST}, {5, GREATEST}};
        for (int[] b : bad) {
            Due.is("17: bad", x.slips(b[0], b[1]), -2);
        }
        x.ratio(400);
        // 10 and c is four times 10 less c at c = 6; there it just holds.
        Due.is("17: just holds", x.slips(0, 6) + x.slips(0, -6), 0);
        Due.is("17: slips", x.slips(0, 7) + x.slips(0, -7), 2);
        Due.is("17: greatest change", x.slips(0, 9) + x.slips(0, -9), 2);
        x.loads(9, 19, 0);
        x.ratio(199);
        Due.is("17: 10 and 20", x.slips(50, 0), 1);
        x.ratio(200);
        Due.is("17: 10 and 20", x.slips(50, 0), 0);
        Due.is("17: more by a change", x.slips(50, 1) * 10 + x.slips(50, -1), 10);
        x.loads(9, 9, 1);
        x.ratio(150);
        // At 40 it is 50 and 70, at 50 it is 60 and 60, at 60 the other way.
        Due.is("17: weight", x.slips(40, 0) * 10 + x.slips(44, 0), 0);
        Due.is("17: weight", x.slips(30, 0) * 10 + x.slips(70, 0), 11);
        Due.is("17: weight", x.slips(38, 0) * 10 + x.slips(37, 0), 1);
    }

    private static void slipAt() {
        ShaftWinder x = new ShaftWinder();
        int[] bad = {-1, 101, LEAST, GREATEST};
        for (int b : bad) {
            Due.is("18: bad", x.slipAt(b), -2);
        }
        Due.is("18: none", x.slipAt(100), -1);
        x.ratio(149);
        Due.is("18: as it begins", x.slipAt(100), 1);
        Due.is("18: no ticks", x.slipAt(0), -1);
        x.ratio(150);
        Due.is("18: just holds", x.slipAt(100), -1);
        // Cage 0 is the heavier one: it slips as it is slowed down, to 2 in tick 5, then to 0.
        x.loads(120, 100, 0);
        x.ratio(170);
        Due.is("18: speeds 2 4 6 4 2", x.slipAt(18), 4);
        x.ratio(100);
        Due.is("18: at first", x.slipAt(18), 1);
        x.ratio(170);
        Due.is("18: speeds 2 4 2", x.slipAt(8), 3);
        Due.is("18: speeds 2 1", x.slipAt(3), -1);
        Due.is("18: speeds 2 2, as it comes to stand", x.slipAt(4), 3);
        Due.is("18: speed 2, as it comes to stand", x.slipAt(2), 2);
        placeAhead();
    }

    /** By the place ahead of a tick: 0, 2, 6 in a ride to 8 and 8 as it comes to stand. */
    private static void placeAhead() {
        ShaftWinder x = new ShaftWinder();
        x.shaft(10, 10, 2);
        x.loads(0, 30, 10);
        x.ratio(400);
        Due.is("18: at 0, 1 and 131", x.slipAt(8), 1);
        Due.is("18: no ticks, though at rest it slips", x.slipAt(0) * 10 + x.slips(0, 0), -9);
        Due.is("19: no ticks, though at rest it slips", x.hold(0), 100);
        x.loads(60, 0, 10);
        // At 0: 61 * 8 and 101 * 12. At 2: 81 * 8 and 81 * 12. At 6: 121 * 12 and 41 * 8. At 8: 141 * 12, 21 * 8.
        x.ratio(248);
        Due.is("18: at 0", x.slipAt(8), 1);
        x.ratio(249);
        Due.is("18: at 6", x.slipAt(8), 3);
        x.ratio(400);
        Due.is("18: at 6", x.slipAt(8), 3);
        Due.is("18: at 4 as it comes to stand", x.slipAt(4), -1);
        Due.is("18: at 5", x.slipAt(5), -1);
        Due.is("19: at 6", x.hold(8), -1);
        Due.is("19: at 4 as it comes to stand", x.hold(4), 249);
    }

    private static void hold() {
        ShaftWinder x = new ShaftWinder();
        int[] bad = {-1, 101, LEAST, GREATEST};
        for (int b : bad) {
            Due.is("19: bad", x.hold(b), -2);
        }
        Due.is("19: no ticks", x.hold(0), 100);
        Due.is("19: 12 to 8", x.hold(100), 150);
        Due.is("19: 11 to 9 is above 122", x.hold(1), 123);
        x.loads(120, 100, 0);
        Due.is("19: as it comes to stand, 121 * 12 to 101 * 8", x.hold(2), 180);
        Due.is("19: ratio stays", x.ratio(400), 400);
        x.loads(0, 1000, 0);
        Due.is("19: none will do", x.hold(100), -1);
        Due.is("19: no ticks", x.hold(0), 100);
        x.loads(99, 265, 0);
        // 266 * 12 to 100 * 8 is 399 to 100.
        Due.is("19: just", x.hold(4), 399);
        x.loads(74, 199, 0);
        Due.is("19: the greatest", x.hold(4), 400);
        x.loads(73, 199, 0);
        Due.is("19: too much", x.hold(4), -1);
    }

    private static void riding() {
        ShaftWinder x = new ShaftWinder();
        x.stop(50, 1);
        x.ring(1);
        x.begin(0);
        Due.is("18: not", x.slipAt(3), -4);
        Due.is("18: bad ahead of not", x.slipAt(-3), -2);
        Due.is("19: not", x.hold(3), -4);
        Due.is("19: bad ahead of not", x.hold(101), -2);
        Due.is("15, 16, 17: while it rides", x.loads(1, 1, 1) + x.ratio(300) + x.slips(50, 0), 401);
        x.pass(2);
        x.link(0, false);
        x.guard(20, 1);
        x.pass(1);
        Due.is("18: not while it brakes", x.slipAt(3) + x.hold(3), -8);
    }
}
