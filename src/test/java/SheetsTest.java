/** Promises 27 to 37: log, sheet, lose, put, get, copy, read, write, plan, check, digest. */
public final class SheetsTest {
    private static final int LEAST = Integer.MIN_VALUE, GREATEST = Integer.MAX_VALUE;

    public static void main(String[] args) {
        log();
        logOfBrakes();
        sheet();
        lose();
        put();
        get();
        copy();
        copyWithin();
        read();
        write();
        plan();
        check();
        checkLaws();
        notAtRest();
        digest();
        Due.end();
    }

    private static ShaftWinder ridden(int q) {
        ShaftWinder x = new ShaftWinder();
        x.stop(q, 1);
        x.ring(1);
        x.begin(0);
        return x;
    }

    private static void items(String name, ShaftWinder x, int s, int form, int... due) {
        for (int i = 0; i < due.length; i++) {
            Due.is(name + ", item " + i, x.get(s, form, i), due[i]);
        }
    }

    private static void log() {
        ShaftWinder x = ridden(19);
        Due.is("27: nothing yet", x.log(0, 0), -2000);
        x.pass(4);
        int[][] due = {{16, 4, 1}, {12, 6, 1}, {6, 4, 1}, {2, 2, 1}};
        for (int i = 0; i < 4; i++) {
            for (int what = 0; what < 3; what++) {
                Due.is("27: log " + i + " " + what, x.log(i, what), due[i][what]);
            }
        }
        Due.is("27: no such tick", x.log(4, 0), -2000);
        Due.is("27: bad", x.log(-1, 0), -2000);
        Due.is("27: bad", x.log(0, -1), -2000);
        Due.is("27: bad", x.log(0, 3), -2000);
        Due.is("27: bad", x.log(LEAST, 0), -2000);
        Due.is("27: bad", x.log(GREATEST, 0), -2000);
        Due.is("27: bad", x.log(0, LEAST), -2000);
        x.pass(2);
        Due.is("27: behind the last", x.log(0, 0) * 100 + x.log(0, 1) * 10 + x.log(0, 2), 1900);
        x.pass(35);
        Due.is("27: forty", x.log(39, 0), 6);
        Due.is("27: no more", x.log(40, 0), -2000);
        x.pass(400);
        Due.is("27: forty", x.log(39, 0), 19);
        Due.is("27: no more", x.log(40, 0), -2000);
    }

    private static void logOfBrakes() {
        ShaftWinder x = ridden(100);
        x.pass(4);
        x.link(0, false);
        x.pass(3);
        int[][] due = {{27, 0, 0}, {27, 2, 2}, {25, 5, 2}, {20, 8, 1}};
        for (int i = 0; i < 4; i++) {
            for (int what = 0; what < 3; what++) {
                Due.is("27: braked, log " + i + " " + what, x.log(i, what), due[i][what]);
            }
        }
    }

    private static void sheet() {
        ShaftWinder x = new ShaftWinder();
        int[][] bad = {{-1, 0, 5}, {4, 0, 5}, {0, -1, 5}, {0, 3, 5}, {0, 0, 61}, {LEAST, 0, 5}, {GREATEST, 0, 5},
            {0, LEAST, 5}, {0, GREATEST, 5}, {0, 0, GREATEST}, {4, 0, -1}, {0, 3, -1}};
        for (int[] b : bad) {
            Due.is("28: bad", x.sheet(b[0], b[1], b[2]), -2);
        }
        Due.is("28: no finding", x.state(12), 0);
        Due.is("28: size", x.sheet(0, 0, -1), -15);
        Due.is("28: finding", x.state(12), 5);
        Due.is("28: size", x.sheet(0, 0, LEAST), -15);
        Due.is("28: still lost", x.lose(0), -11);
        Due.is("28: none", x.sheet(0, 0, 0), 0);
        Due.is("28: no items", x.get(0, 0, 0), LEAST);
        Due.is("28: the most", x.sheet(3, 2, 60), 60);
        Due.is("28: put", x.put(3, 2, 59, 7) + x.put(3, 2, 0, 7), 2);
        Due.is("28: size leaves it", x.sheet(3, 2, -1), -15);
        Due.is("28: size leaves it", x.get(3, 2, 59), 7);
        Due.is("28: anew", x.sheet(3, 2, 60), 60);
        Due.is("28: anew", x.get(3, 2, 59) + x.get(3, 2, 0), 0);
        Due.is("28: other form", x.sheet(3, 1, 2), 2);
        Due.is("28: other form", x.put(3, 2, 0, 1), -13);
        Due.is("28: other form", x.put(3, 1, 1, 1), 1);
        Due.is("28: fewer", x.put(3, 1, 2, 1), -12);
    }

    private static void lose() {
        ShaftWinder x = new ShaftWinder();
        int[] bad = {-1, 4, LEAST, GREATEST};
        for (int b : bad) {
            Due.is("29: bad", x.lose(b), -2);
        }
        Due.is("29: no finding", x.state(12), 0);
        Due.is("29: null", x.lose(1), -11);
        Due.is("29: finding", x.state(12), 1);
        x.sheet(1, 1, 17);
        Due.is("29: items", x.lose(1), 17);
        Due.is("29: null", x.lose(1), -11);
        Due.is("29: null", x.put(1, 1, 0, 0), -11);
    }

    private static void put() {
        ShaftWinder x = new ShaftWinder();
        x.sheet(0, 0, 3);
        int[][] bad = {{-1, 0, 0}, {4, 0, 0}, {0, -1, 0}, {0, 3, 0}, {LEAST, 0, 0}, {GREATEST, 0, 0}, {0, GREATEST, 0}};
        for (int[] b : bad) {
            Due.is("30: bad", x.put(b[0], b[1], b[2], 1), -2);
        }
        Due.is("30: no finding", x.state(12), 0);
        Due.is("30: null", x.put(1, 0, 99, 1), -11);
        Due.is("30: cast", x.put(0, 1, 99, 1), -13);
        Due.is("30: finding", x.state(12), 3);
        Due.is("30: cast", x.put(0, 2, 0, 1), -13);
        Due.is("30: index", x.put(0, 0, 3, 1), -12);
        Due.is("30: index", x.put(0, 0, -1, 1), -12);
        Due.is("30: index", x.put(0, 0, LEAST, 1) + x.put(0, 0, GREATEST, 1), -24);
        Due.is("30: finding", x.state(12), 2);
        items("30: nothing changed", x, 0, 0, 0, 0, 0);
        x.put(0, 0, 0, 127);
        x.put(0, 0, 1, 128);
        x.put(0, 0, 2, 0x12345);
        items("30: bytes", x, 0, 0, 127, -128, 0x45);
        x.sheet(1, 1, 3);
        x.put(1, 1, 0, 32767);
        x.put(1, 1, 1, 32768);
        x.put(1, 1, 2, 0x12345);
        items("30: shorts", x, 1, 1, 32767, -32768, 0x2345);
        x.sheet(2, 2, 3);
        x.put(2, 2, 0, GREATEST);
        x.put(2, 2, 1, LEAST);
        x.put(2, 2, 2, 0x12345);
        items("30: ints", x, 2, 2, GREATEST, LEAST, 0x12345);
    }

    private static void get() {
        ShaftWinder x = new ShaftWinder();
        x.sheet(0, 1, 2);
        x.put(0, 1, 1, -9);
        Due.is("31: item", x.get(0, 1, 1), -9);
        Due.is("31: item", x.get(0, 1, 0), 0);
        int[][] bad = {{-1, 0, 0}, {4, 0, 0}, {0, -1, 0}, {0, 3, 0}, {LEAST, 0, 0}, {GREATEST, 0, 0}, {0, LEAST, 0}};
        for (int[] b : bad) {
            Due.is("31: bad", x.get(b[0], b[1], b[2]), LEAST);
        }
        Due.is("31: no finding", x.state(12), 0);
        Due.is("31: null", x.get(1, 1, 9), LEAST);
        Due.is("31: null", x.state(12), 1);
        Due.is("31: cast", x.get(0, 0, 9), LEAST);
        Due.is("31: cast", x.state(12), 3);
        Due.is("31: index", x.get(0, 1, 2), LEAST);
        Due.is("31: index", x.state(12), 2);
        x.lose(3);
        Due.is("31: index", x.get(0, 1, -1), LEAST);
        Due.is("31: index", x.state(12), 2);
        Due.is("31: index", x.get(0, 1, GREATEST), LEAST);
        Due.is("31: item, finding stays", x.get(0, 1, 1) + x.state(12), -7);
    }

    private static void copy() {
        ShaftWinder x = new ShaftWinder();
        x.sheet(0, 2, 4);
        x.sheet(1, 2, 6);
        x.sheet(2, 1, 6);
        for (int i = 0; i < 4; i++) {
            x.put(0, 2, i, 10 + i);
        }
        int[][] bad = {{-1, 0}, {4, 0}, {0, -1}, {0, 4}, {LEAST, 0}, {0, GREATEST}, {3, 4}, {4, 3}};
        for (int[] b : bad) {
            Due.is("32: bad", x.copy(b[0], 0, b[1], 0, 1), -2);
        }
        Due.is("32: no finding", x.state(12), 0);
        Due.is("32: null", x.copy(0, -1, 3, 0, 1), -11);
        Due.is("32: null", x.copy(3, -1, 2, 0, 1), -11);
        Due.is("32: store", x.copy(0, -1, 2, 0, 1), -14);
        Due.is("32: finding", x.state(12), 4);
        int[][] index = {{-1, 0, 1}, {0, -1, 1}, {0, 0, -1}, {0, 0, 5}, {1, 0, 4}, {0, 3, 4}, {4, 0, 1}, {0, 6, 1},
            {5, 0, 0}, {0, 7, 0}, {1, 0, GREATEST}, {GREATEST, 0, 1}, {0, GREATEST, 1}, {LEAST, 0, 1}, {0, 0, LEAST},
            {GREATEST, GREATEST, GREATEST}};
        for (int[] i : index) {
            Due.is("32: index", x.copy(0, i[0], 1, i[1], i[2]), -12);
        }
        Due.is("32: finding", x.state(12), 2);
        items("32: nothing changed", x, 1, 2, 0, 0, 0, 0, 0, 0);
        Due.is("32: none", x.copy(0, 4, 1, 6, 0), 1);
        Due.is("32: some", x.copy(0, 1, 1, 3, 2), 1);
        items("32: some", x, 1, 2, 0, 0, 0, 11, 12, 0);
        Due.is("32: to the end", x.copy(0, 0, 1, 2, 4), 1);
        items("32: to the end", x, 1, 2, 0, 0, 10, 11, 12, 13);
        items("32: source stays", x, 0, 2, 10, 11, 12, 13);
    }

    private static void copyWithin() {
        ShaftWinder x = new ShaftWinder();
        x.sheet(0, 0, 5);
        for (int i = 0; i < 5; i++) {
            x.put(0, 0, i, i + 1);
        }
        Due.is("32: onward", x.copy(0, 0, 0, 1, 4), 1);
        items("32: onward", x, 0, 0, 1, 1, 2, 3, 4);
        Due.is("32: backward", x.copy(0, 2, 0, 0, 3), 1);
        items("32: backward", x, 0, 0, 2, 3, 4, 3, 4);
    }

    private static void read() {
        ShaftWinder x = new ShaftWinder();
        int[] bad = {-1, 4, LEAST, GREATEST};
        for (int b : bad) {
            Due.is("33: bad", x.read(b), -2);
        }
        Due.is("33: null", x.read(0), -11);
        Due.is("33: finding", x.state(12), 1);
        x.broken(0, 50);
        x.broken(4, 60);
        x.sheet(0, 2, 4);
        x.put(0, 2, 0, -1);
        x.put(0, 2, 1, 99);
        x.put(0, 2, 2, 100);
        x.put(0, 2, 3, GREATEST);
        Due.is("33: how many", x.read(0), 4);
        int[] lays = {0, 99, 99, 99, 60};
        for (int lay = 0; lay < 5; lay++) {
            Due.is("33: lay", x.cut(1), lays[lay]);
        }
        x.put(0, 2, 0, LEAST);
        x.read(0);
        Due.is("33: least", x.cut(1), 0);
        x.sheet(1, 1, 60);
        x.put(1, 1, 59, 7);
        Due.is("33: all", x.read(1), 60);
        Due.is("33: all", x.worst(60) * 100 + x.worstAt(1), 759);
        x.sheet(1, 1, 0);
        Due.is("33: none", x.read(1), 0);
        Due.is("33: none", x.worst(60), 7);
    }

    private static void write() {
        ShaftWinder x = ridden(19);
        int[][] bad = {{-1, 0}, {4, 0}, {0, -1}, {0, 3}, {LEAST, 0}, {GREATEST, 0}, {0, LEAST}, {0, GREATEST}};
        for (int[] b : bad) {
            Due.is("34: bad", x.write(b[0], b[1]), -2);
        }
        Due.is("34: no finding", x.state(12), 0);
        Due.is("34: null", x.write(0, 0), -11);
        x.sheet(0, 2, 5);
        Due.is("34: empty log", x.write(0, 0), 0);
        x.pass(3);
        x.put(0, 2, 3, 77);
        Due.is("34: places", x.write(0, 0), 3);
        items("34: places", x, 0, 2, 2, 6, 12, 77, 0);
        Due.is("34: speeds", x.write(0, 1), 3);
        items("34: speeds", x, 0, 2, 2, 4, 6, 77, 0);
        Due.is("34: how", x.write(0, 2), 3);
        items("34: how", x, 0, 2, 1, 1, 1, 77, 0);
        x.pass(3);
        Due.is("34: the latest", x.write(0, 0), 5);
        items("34: the latest", x, 0, 2, 6, 12, 16, 18, 19);
        Due.is("34: the latest", x.write(0, 1), 5);
        items("34: the latest", x, 0, 2, 4, 6, 4, 2, 0);
        x.sheet(0, 2, 0);
        Due.is("34: no items", x.write(0, 0), 0);
        x.pass(36);
        x.sheet(0, 2, 60);
        Due.is("34: forty", x.write(0, 0), 40);
        items("34: forty", x, 0, 2, 12, 16, 18, 19);
        ShaftWinder y = new ShaftWinder();
        y.shaft(400, 20, 5);
        y.stop(200, 1);
        y.ring(1);
        y.begin(0);
        y.pass(40);
        y.sheet(0, 0, 1);
        Due.is("34: the lowest bits", y.write(0, 0), 1);
        items("34: the lowest bits", y, 0, 0, -56);
    }

    private static void plan() {
        ShaftWinder x = new ShaftWinder();
        Due.is("35: null", x.plan(0, 5), -11);
        Due.is("35: finding", x.state(12), 1);
        x.sheet(0, 1, 8);
        int[][] bad = {{-1, 0}, {4, 0}, {0, -1}, {0, 101}, {LEAST, 0}, {GREATEST, 0}, {0, LEAST}, {0, GREATEST}, {1, 101}};
        for (int[] b : bad) {
            Due.is("35: bad", x.plan(b[0], b[1]), -2);
        }
        x.put(0, 1, 6, 55);
        Due.is("35: how many", x.plan(0, 19), 6);
        items("35: speeds", x, 0, 1, 2, 4, 6, 4, 2, 1, 55, 0);
        Due.is("35: no ticks", x.plan(0, 0), 0);
        items("35: no ticks", x, 0, 1, 2, 4);
        Due.is("35: as many as fit", x.plan(0, 100), 8);
        items("35: as many as fit", x, 0, 1, 2, 4, 6, 8, 10, 10, 10, 10);
        x.sheet(0, 0, 0);
        Due.is("35: none fits", x.plan(0, 100), 0);
        x.stop(100, 1);
        x.ring(1);
        x.begin(0);
        x.pass(400);
        x.sheet(0, 0, 3);
        Due.is("35: up", x.plan(0, 50), 3);
        items("35: up", x, 0, 0, -2, -4, -6);
    }

    private static void check() {
        ShaftWinder x = new ShaftWinder();
        int[] bad = {-1, 4, LEAST, GREATEST};
        for (int b : bad) {
            Due.is("36: bad", x.check(b), -2);
        }
        Due.is("36: no finding", x.state(12), 0);
        Due.is("36: null", x.check(0), -11);
        Due.is("36: finding", x.state(12), 1);
        x.sheet(0, 0, 0);
        Due.is("36: nothing", x.check(0), 1000);
        x.sheet(0, 2, 60);
        Due.is("36: stands", x.check(0), 1060);
        x.sheet(0, 2, 3);
        int[][] due = {{2, 4, 2, 1003}, {2, 4, 3, 3}, {3, 0, 0, 0}, {2, 5, 0, 1}, {2, 4, 7, 2}, {2, 0, -2, 1003},
            {2, 0, -3, 2}, {-1, 0, 0, 0}, {2, -1, 0, 1}, {1, -1, 0, 1003}, {1, -1, -1, 2}, {LEAST, 0, 0, 0},
            {GREATEST, 0, 0, 0}, {2, LEAST, 0, 1}, {2, GREATEST, 0, 1}, {0, 0, LEAST, 2}, {0, 2, 4, 3}, {0, 0, 2, 1003}};
        for (int[] d : due) {
            for (int i = 0; i < 3; i++) {
                x.put(0, 2, i, d[i]);
            }
            Due.is("36: " + d[0] + " " + d[1] + " " + d[2], x.check(0), d[3]);
        }
        Due.is("36: nothing changed", x.state(0) + x.state(6), 0);
    }

    private static void checkLaws() {
        ShaftWinder x = new ShaftWinder();
        x.shaft(12, 4, 5);
        x.sheet(0, 0, 3);
        int[][] due = {{4, 4, 4, 1003}, {4, 5, 0, 1}, {5, 0, 0, 0}, {4, 4, 5, 2}, {4, 0, -4, 1003}, {4, 0, -5, 2}, {4, -1, -4, 2}};
        for (int[] d : due) {
            for (int i = 0; i < 3; i++) {
                x.put(0, 0, i, d[i]);
            }
            Due.is("36: laws " + d[0] + " " + d[1] + " " + d[2], x.check(0), d[3]);
        }
        x.zone(5, 5, 3);
        x.put(0, 0, 0, 4);
        x.put(0, 0, 1, 4);
        Due.is("36: zone", x.check(0), 1);
        x.put(0, 0, 1, 3);
        x.put(0, 0, 2, 3);
        Due.is("36: zone", x.check(0), 1003);
        x.put(0, 0, 2, 4);
        Due.is("36: mirrored zone", x.check(0), 2);
        x.put(0, 0, 2, 0);
        Due.is("36: stands in a zone", x.check(0), 1003);
    }

    private static void notAtRest() {
        ShaftWinder x = ridden(100);
        x.sheet(0, 0, 3);
        Due.is("35: not", x.plan(0, 50), -4);
        Due.is("35: not ahead of null", x.plan(1, 50), -4);
        Due.is("35: bad ahead of not", x.plan(0, 101), -2);
        Due.is("36: not", x.check(0), -4);
        Due.is("36: not ahead of null", x.check(1), -4);
        Due.is("36: bad ahead of not", x.check(4), -2);
        Due.is("35, 36: no finding", x.state(12), 0);
        x.pass(4);
        x.link(1, false);
        x.pass(1);
        Due.is("35, 36: while it brakes", x.plan(0, 50) + x.check(0), -8);
    }

    private static long fold(long h, int... numbers) {
        for (int n : numbers) {
            h = 31 * h + n;
        }
        return h;
    }

    private static void digest() {
        ShaftWinder x = new ShaftWinder();
        Due.is("37: new", x.digest(), fold(fold(17, new int[12]), new int[60]));
        x.stop(19, 1);
        x.zone(70, 75, 9);
        x.ring(1);
        x.begin(0);
        x.pass(2);
        x.error(0, -7);
        x.error(1, -7);
        x.broken(0, 3);
        x.broken(59, 4);
        x.ring(8);
        x.lose(0);
        int[] lays = new int[60];
        lays[0] = 3;
        lays[59] = 4;
        long due = fold(fold(fold(17, 6, 4, 1, 8, 0, -1, 2, 4, 0, 0, 1, 1), lays), 6, 4, 2, 1);
        Due.is("37: on the way", x.digest(), due);
        x.link(4, false);
        x.guard(20, 1);
        x.pass(1);
        Due.is("37: it brakes", x.digest(), fold(fold(17, 9, 3, 2, 8, 1, 2, 3, 0, 0, 1, 1, 1), lays));
    }
}
