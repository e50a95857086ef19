/** Promises 25 and 26: shift, both. */
public final class ShiftsTest {
    private static final int LEAST = Integer.MIN_VALUE, GREATEST = Integer.MAX_VALUE;

    public static void main(String[] args) {
        ShaftWinder x = new ShaftWinder();
        shift(x);
        both(x);
        bad(x);
        whileItRides();
        Due.end();
    }

    private static void shift(ShaftWinder x) {
        Due.is("25: one trip", x.shift(100, 1, 1, 0), 14);
        Due.is("25: in and out", x.shift(100, 1, 1, 100), 214);
        Due.is("25: two trips", x.shift(100, 2, 1, 3), 20 + 14 + 20);
        Due.is("25: the last are fewer", x.shift(100, 11, 10, 3), 54);
        Due.is("25: full cages", x.shift(100, 20, 10, 3), 54);
        Due.is("25: one too many", x.shift(100, 21, 10, 3), 88);
        Due.is("25: the most", x.shift(100, 500, 1, 100), 500 * 214 + 499 * 14);
        Due.is("25: fifty at a time", x.shift(100, 500, 50, 0), 19 * 14);
        Due.is("25: nowhere", x.shift(0, 3, 1, 2), 12);
        Due.is("25: nowhere, at once", x.shift(0, 500, 50, 0), 0);
        x.zone(40, 60, 2);
        Due.is("25: zones", x.shift(100, 2, 1, 0), 78);
    }

    private static void both(ShaftWinder x) {
        Due.is("26: one ride", x.both(1, 1, 0), 26);
        ShaftWinder y = new ShaftWinder();
        y.shaft(61, 10, 2);
        Due.is("26: from 0 to D", y.both(1, 1, 0), 11);
        y.shaft(10, 1, 1);
        Due.is("26: from 0 to D", y.both(3, 1, 1), 34);
        Due.is("26: in and out", x.both(1, 1, 5), 36);
        Due.is("26: two rides", x.both(2, 1, 5), 67);
        Due.is("26: three rides", x.both(3, 1, 5), 98);
        Due.is("26: the last are fewer", x.both(21, 10, 5), 98);
        Due.is("26: full cages", x.both(30, 10, 5), 98);
        Due.is("26: the most", x.both(500, 50, 100), 100 + 10 * 126);
    }

    private static void bad(ShaftWinder x) {
        int[][] bad = {{0, 5, 5}, {501, 5, 5}, {5, 0, 5}, {5, 51, 5}, {5, 5, -1}, {5, 5, 101}, {LEAST, 5, 5}, {GREATEST, 5, 5},
            {5, LEAST, 5}, {5, GREATEST, 5}, {5, 5, LEAST}, {5, 5, GREATEST}};
        for (int[] b : bad) {
            Due.is("25: bad", x.shift(10, b[0], b[1], b[2]), -2);
            Due.is("26: bad", x.both(b[0], b[1], b[2]), -2);
        }
        Due.is("25: bad", x.shift(-1, 5, 5, 5) + x.shift(101, 5, 5, 5), -4);
        Due.is("25: bad", x.shift(LEAST, 5, 5, 5) + x.shift(GREATEST, 5, 5, 5), -4);
    }

    private static void whileItRides() {
        ShaftWinder x = new ShaftWinder();
        x.stop(100, 1);
        x.ring(1);
        x.begin(0);
        x.pass(4);
        long before = x.digest();
        Due.is("25: whatever P is", x.shift(8, 1, 1, 0), 3);
        Due.is("26: while it rides", x.both(1, 1, 0), 14);
        Due.is("25, 26: nothing changes", x.digest(), before);
        Due.is("the ride goes on", x.pass(10) * 1000 + x.state(0), 100);
        Due.is("25: whatever P is", x.shift(8, 2, 1, 0), 9);
    }
}
