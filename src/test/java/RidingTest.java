/** Promises 8 to 14: ring, link, error, guard, begin, pass, state. */
public final class RidingTest {
    private static final int LEAST = Integer.MIN_VALUE, GREATEST = Integer.MAX_VALUE;

    public static void main(String[] args) {
        ring();
        link();
        error();
        guard();
        margins();
        begin();
        pass();
        brakes();
        brakesSlowly();
        brakesAtTheEnds();
        state();
        Due.end();
    }

    private static ShaftWinder setOut(int d, int v, int a, int q) {
        ShaftWinder x = new ShaftWinder();
        x.shaft(d, v, a);
        x.stop(q, 7);
        x.stop(0, 8);
        x.ring(7);
        x.begin(0);
        return x;
    }

    private static void is(String name, ShaftWinder x, int place, int speed, int how) {
        Due.is(name + ", place", x.state(0), place);
        Due.is(name + ", speed", x.state(1), speed);
        Due.is(name + ", how", x.state(2), how);
    }

    private static void ring() {
        ShaftWinder x = new ShaftWinder();
        Due.is("8: least", x.ring(1) * 10 + x.state(3), 11);
        Due.is("8: greatest", x.ring(9) * 10 + x.state(3), 19);
        int[] bad = {0, 10, -1, LEAST, GREATEST};
        for (int b : bad) {
            Due.is("8: bad", x.ring(b), -2);
        }
        Due.is("8: latest", x.state(3), 9);
        Due.is("8: latest", x.ring(4) * 10 + x.state(3), 14);
    }

    private static void link() {
        ShaftWinder x = new ShaftWinder();
        int[] bad = {-1, 8, LEAST, GREATEST};
        for (int b : bad) {
            Due.is("9: bad", x.link(b, false), -2);
        }
        for (int l = 0; l < 8; l++) {
            Due.is("9: open", x.link(l, false), 1);
            Due.is("9: again", x.link(l, false), 1);
            Due.is("9: open links", x.state(4), l + 1);
        }
        Due.is("9: closed", x.link(3, true), 1);
        Due.is("9: open links", x.state(4), 7);
        Due.is("9: bad", x.link(8, true), -2);
        x.stop(10, 1);
        x.ring(1);
        for (int l = 0; l < 8; l++) {
            Due.is("9: one open link is enough", x.begin(0), -4);
            Due.is("9: closed", x.link(l, true), 1);
        }
        Due.is("9: all closed", x.begin(0), 4);
    }

    private static void error() {
        ShaftWinder x = new ShaftWinder();
        int[][] bad = {{-1, 0}, {3, 0}, {0, -1001}, {2, 1001}, {LEAST, 0}, {GREATEST, 0}, {0, LEAST}, {0, GREATEST}};
        for (int[] b : bad) {
            Due.is("10: bad", x.error(b[0], b[1]), -2);
        }
        Due.is("10: one lies", x.error(0, 1000) * 10 + x.state(5), 10);
        Due.is("10: two", x.error(1, 500), 1);
        Due.is("10: middle", x.state(5), 500);
        Due.is("10: three", x.error(2, -1000), 1);
        Due.is("10: middle", x.state(5), 500);
        x.error(0, -1000);
        Due.is("10: middle", x.state(5), -1000);
        x.error(1, -20);
        x.error(2, 30);
        Due.is("10: middle", x.state(5), -20);
        x.error(0, 1000);
        Due.is("10: middle", x.state(5), 30);
        x.stop(40, 1);
        x.ring(1);
        x.begin(0);
        x.pass(20);
        Due.is("10: told moves with it", x.state(5), 70);
    }

    private static void guard() {
        ShaftWinder x = new ShaftWinder();
        int[][] bad = {{-1, 1}, {21, 1}, {0, 0}, {0, 11}, {LEAST, 1}, {GREATEST, 1}, {0, LEAST}, {0, GREATEST}};
        for (int[] b : bad) {
            Due.is("11: bad", x.guard(b[0], b[1]), -2);
        }
        Due.is("11: least", x.guard(0, 1), 1);
        Due.is("11: greatest", x.guard(20, 10), 1);
    }

    /** In a zone that is told, though it is not there, a speed of 8 is 5 too much. */
    private static void margins() {
        for (int margin = 4; margin <= 5; margin++) {
            for (int way = 0; way < 2; way++) {
                ShaftWinder x = new ShaftWinder();
                x.zone(60, 62, 3);
                x.stop(32, 1);
                x.stop(0, 2);
                if (way == 1) {
                    x.ring(1);
                    x.begin(0);
                    x.pass(400);
                }
                x.ring(way + 1);
                x.begin(way);
                x.guard(margin, 2);
                x.pass(3);
                int place = way == 0 ? 12 : 20;
                int toward = way == 0 ? 1 : -1;
                is("11: ahead", x, place, 6 * toward, 1);
                x.error(1, 60 - place);
                x.error(2, 61 - place);
                Due.is("11: told", x.state(5), 60);
                boolean brakes = margin == 4;
                Due.is("11: margin " + margin, x.pass(1), brakes ? 2 : 1);
                is("11: margin " + margin, x, place + (brakes ? 4 : 8) * toward, (brakes ? 4 : 8) * toward, brakes ? 2 : 1);
            }
        }
        toldInMirror();
        toldOutside();
        marginAtFirst();
    }

    /** The margin at first is more than any speed can be too much. */
    private static void marginAtFirst() {
        ShaftWinder x = new ShaftWinder();
        x.shaft(400, 20, 5);
        x.zone(395, 400, 1);
        x.stop(300, 1);
        x.ring(1);
        x.begin(0);
        x.error(0, 1000);
        x.pass(10);
        Due.is("11: fast", x.state(1), 20);
        x.error(1, 396 - x.state(0));
        Due.is("11: told", x.state(5), 396);
        Due.is("11: 19 too much", x.pass(1), 1);
        Due.is("11: 19 too much", x.state(1), 20);
        x.error(1, 396 - x.state(0));
        x.guard(18, 10);
        Due.is("11: 19 too much", x.pass(1), 2);
        Due.is("11: 19 too much", x.state(1), 10);
    }

    private static void toldInMirror() {
        ShaftWinder x = new ShaftWinder();
        x.zone(60, 62, 3);
        x.stop(30, 1);
        x.ring(1);
        x.begin(0);
        x.guard(0, 1);
        x.pass(2);
        x.error(0, 34);
        x.error(1, 34);
        Due.is("13: D less told is in the zone", x.state(5), 40);
        Due.is("13: it brakes", x.pass(1), 2);
        is("13: it brakes", x, 9, 3, 2);
        Due.is("13: braked", x.state(9), 1);
    }

    private static void toldOutside() {
        int[] errors = {-1000, -7, 500, 1000};
        for (int e : errors) {
            ShaftWinder x = new ShaftWinder();
            x.guard(0, 1);
            x.stop(100, 1);
            x.ring(1);
            x.begin(0);
            x.error(1, e);
            x.error(2, e);
            Due.is("13: outside there is no zone", x.pass(14) * 10 + x.state(8), 1);
            Due.is("13: at its end", x.state(0), 100);
        }
    }

    private static void begin() {
        ShaftWinder x = new ShaftWinder();
        Due.is("12: no stops", x.begin(0), -2);
        x.stop(100, 3);
        x.stop(0, 4);
        int[] bad = {-1, 2, 6, LEAST, GREATEST};
        for (int b : bad) {
            Due.is("12: bad", x.begin(b), -2);
        }
        Due.is("12: no bell", x.begin(0), -4);
        x.ring(4);
        Due.is("12: other count", x.begin(0), -4);
        Due.is("12: bell stays", x.state(3), 4);
        Due.is("12: where it is", x.begin(1), 0);
        Due.is("12: it rests on", x.state(2) + x.state(3) + x.state(7) + x.state(8) + x.state(9), 0);
        x.ring(3);
        x.link(7, false);
        Due.is("12: open link", x.begin(0), -4);
        x.link(7, true);
        Due.is("12: it begins", x.begin(0), 14);
        Due.is("12: bell", x.state(3), 0);
        is("12: not yet", x, 0, 0, 1);
        x.ring(4);
        Due.is("12: not, bell as asked", x.begin(1), -4);
        Due.is("12: bad ahead of not", x.begin(2), -2);
        Due.is("12: left", x.state(7), 14);
        oneTick();
        Due.is("12: bell stays", x.state(3), 4);
    }

    private static void oneTick() {
        ShaftWinder x = setOut(100, 10, 2, 1);
        Due.is("12: one tick", x.state(2) * 10 + x.state(7), 11);
        Due.is("13: one tick", x.pass(1) * 10 + x.state(0), 1);
        Due.is("13: ended", x.state(8), 1);
        x.ring(8);
        Due.is("12: and back", x.begin(1), 1);
        x.pass(1);
        is("13: and back", x, 0, 0, 0);
        Due.is("13: ended", x.state(8), 2);
    }

    private static void pass() {
        ShaftWinder x = setOut(100, 10, 2, 19);
        int[] bad = {0, -1, 401, LEAST, GREATEST};
        for (int b : bad) {
            Due.is("13: bad", x.pass(b), -2);
        }
        Due.is("13: none passed", x.state(6) * 100 + x.state(7), 6);
        int[] speeds = {2, 4, 6, 4, 2, 1};
        int place = 0;
        for (int t = 0; t < 5; t++) {
            Due.is("13: rides", x.pass(1), 1);
            place += speeds[t];
            is("13: tick " + t, x, place, speeds[t], 1);
            Due.is("13: left", x.state(7), 5 - t);
            Due.is("13: not ended", x.state(8), 0);
        }
        Due.is("13: the last", x.pass(1), 0);
        is("13: the last", x, 19, 0, 0);
        Due.is("13: ended", x.state(8) * 10 + x.state(9), 10);
        Due.is("13: rests on", x.pass(400), 0);
        is("13: rests on", x, 19, 0, 0);
        Due.is("13: passed", x.state(6), 406);
        x.link(0, false);
        x.pass(1);
        Due.is("13: an open link at rest", x.state(9), 0);
    }

    private static void brakes() {
        ShaftWinder x = setOut(100, 10, 2, 100);
        x.pass(6);
        is("13: fast", x, 40, 10, 1);
        x.link(5, false);
        Due.is("13: brakes at once", x.pass(1), 2);
        is("13: by 3", x, 47, 7, 2);
        Due.is("13: over", x.state(7) * 100 + x.state(8) * 10 + x.state(9), 1);
        x.link(5, true);
        Due.is("13: brakes on", x.pass(1), 2);
        is("13: by 3", x, 51, 4, 2);
        x.guard(20, 2);
        x.pass(1);
        is("13: by 2", x, 53, 2, 2);
        Due.is("13: to rest", x.pass(1), 0);
        is("13: to rest", x, 53, 0, 0);
        Due.is("13: braked", x.state(8) * 10 + x.state(9), 1);
        x.ring(8);
        Due.is("12: anew", x.begin(1), x.state(7));
        x.guard(20, 10);
        x.pass(3);
        x.link(0, false);
        Due.is("13: not beyond 0", x.pass(1), 0);
        is("13: not beyond 0", x, 41, 0, 0);
        Due.is("13: braked", x.state(9), 2);
        x.link(0, true);
        x.ring(8);
        x.begin(1);
        x.link(0, false);
        Due.is("13: ahead of the first tick", x.pass(1), 0);
        is("13: ahead of the first tick", x, 41, 0, 0);
        Due.is("13: braked", x.state(9), 3);
    }

    /** With a change of 1 and a brake of 1 each speed is braked to the next one. */
    private static void brakesSlowly() {
        ShaftWinder x = setOut(100, 3, 1, 100);
        x.guard(20, 1);
        x.pass(5);
        is("13: fast", x, 12, 3, 1);
        x.link(0, false);
        x.pass(1);
        is("13: by 1", x, 14, 2, 2);
        x.pass(1);
        is("13: by 1", x, 15, 1, 2);
        x.pass(1);
        is("13: by 1", x, 15, 0, 0);
        x.link(0, true);
        x.ring(8);
        x.begin(1);
        x.pass(1);
        is("13: up", x, 14, -1, 1);
        x.link(0, false);
        x.pass(1);
        is("13: up", x, 14, 0, 0);
    }

    /** Braked late, it comes to the shaft's end: there it stands. */
    private static void brakesAtTheEnds() {
        ShaftWinder x = setOut(100, 10, 5, 100);
        x.guard(20, 1);
        x.pass(10);
        is("13: near the end", x, 95, 10, 1);
        x.link(0, false);
        Due.is("13: not beyond D", x.pass(1), 0);
        is("13: not beyond D", x, 100, 0, 0);
        x.link(0, true);
        x.ring(8);
        x.begin(1);
        x.pass(10);
        x.link(0, false);
        Due.is("13: not beyond 0", x.pass(1), 0);
        is("13: not beyond 0", x, 0, 0, 0);
        exactlyAtTheEnd();
    }

    private static void exactlyAtTheEnd() {
        ShaftWinder x = setOut(94, 10, 5, 94);
        x.guard(20, 1);
        x.pass(9);
        is("13: nine ahead", x, 85, 10, 1);
        x.link(0, false);
        Due.is("13: as far as D, not beyond", x.pass(1), 2);
        is("13: as far as D, not beyond", x, 94, 9, 2);
        Due.is("13: then it rests", x.pass(1), 0);
        is("13: then it rests", x, 94, 0, 0);
    }

    private static void state() {
        ShaftWinder x = setOut(100, 10, 2, 100);
        x.zone(0, 1, 1);
        x.pass(3);
        x.ring(5);
        x.error(0, 3);
        x.error(1, 4);
        x.lose(0);
        int[] due = {12, 6, 1, 5, 0, 15, 3, 11, 0, 0, 0, 2, 1};
        for (int what = 0; what < due.length; what++) {
            Due.is("14: state " + what, x.state(what), due[what]);
        }
        int[] bad = {-1, 13, LEAST, GREATEST};
        for (int b : bad) {
            Due.is("14: bad", x.state(b), -2000);
        }
    }
}
