/** Promises 20 to 24: broken, worst, worstAt, cut, mend. */
public final class BookTest {
    private static final int LEAST = Integer.MIN_VALUE, GREATEST = Integer.MAX_VALUE;

    public static void main(String[] args) {
        broken();
        worst();
        cut();
        mend();
        Due.end();
    }

    private static void broken() {
        ShaftWinder x = new ShaftWinder();
        int[][] bad = {{-1, 1}, {60, 1}, {0, 0}, {0, 100}, {0, -1}, {LEAST, 1}, {GREATEST, 1}, {0, LEAST}, {0, GREATEST}};
        for (int[] b : bad) {
            Due.is("20: bad", x.broken(b[0], b[1]), -2);
        }
        Due.is("20: nothing yet", x.worst(60), 0);
        Due.is("20: first", x.broken(0, 1), 1);
        Due.is("20: more", x.broken(0, 97), 98);
        Due.is("20: more", x.broken(0, 1), 99);
        Due.is("20: no more", x.broken(0, 1), 99);
        Due.is("20: last lay", x.broken(59, 99), 99);
        Due.is("20: no more", x.broken(59, 99), 99);
        Due.is("20: both", x.worst(60), 198);
    }

    private static void worst() {
        ShaftWinder x = new ShaftWinder();
        int[] bad = {0, 61, -1, LEAST, GREATEST};
        for (int b : bad) {
            Due.is("21: bad", x.worst(b), -2);
            Due.is("22: bad", x.worstAt(b), -2);
        }
        Due.is("22: none broken", x.worstAt(1) + x.worstAt(60), 0);
        x.broken(10, 4);
        x.broken(12, 3);
        x.broken(59, 4);
        int[][] due = {{1, 4, 10}, {2, 4, 9}, {3, 7, 10}, {4, 7, 9}, {10, 7, 3}, {48, 7, 0}, {50, 11, 10}, {60, 11, 0}};
        for (int[] w : due) {
            Due.is("21: worst " + w[0], x.worst(w[0]), w[1]);
            Due.is("22: worstAt " + w[0], x.worstAt(w[0]), w[2]);
        }
        x.broken(59, 1);
        Due.is("22: the last", x.worstAt(1), 59);
        x.broken(1, 6);
        Due.is("22: the second", x.worstAt(1) * 10 + x.worstAt(2), 10);
        x.broken(0, 7);
        Due.is("22: the first", x.worstAt(1) * 10 + x.worst(1), 7);
        x.cut(2);
        x.cut(1);
        Due.is("22: moved up", x.worstAt(4) * 100 + x.worstAt(2), 655);
    }

    private static void cut() {
        ShaftWinder x = new ShaftWinder();
        x.broken(0, 5);
        x.broken(1, 6);
        x.broken(59, 7);
        int[] bad = {0, 61, -1, LEAST, GREATEST};
        for (int b : bad) {
            Due.is("23: bad", x.cut(b), -2);
        }
        Due.is("23: as it was", x.worst(60), 18);
        Due.is("23: one", x.cut(1), 5);
        Due.is("23: moved up", x.broken(0, 1), 7);
        Due.is("23: moved up", x.broken(58, 1), 8);
        Due.is("23: new at the end", x.broken(59, 1), 1);
        Due.is("23: all but one", x.cut(59), 15);
        Due.is("23: moved up", x.broken(0, 1), 2);
        Due.is("23: new ones", x.worst(60), 2);
        Due.is("23: all", x.cut(60), 2);
        Due.is("23: none", x.worst(60) + x.cut(60), 0);
    }

    private static void mend() {
        ShaftWinder x = new ShaftWinder();
        Due.is("24: nothing to do", x.mend(1, 0) + x.mend(60, 0), 0);
        x.broken(5, 2);
        x.broken(8, 3);
        x.broken(58, 1);
        int[][] due = {{1, 3, 0}, {1, 2, 9}, {1, 1, 9}, {1, 0, 59}, {3, 3, 0}, {4, 5, 0}, {4, 4, 6}, {4, 3, 6}, {4, 2, 9},
            {60, 6, 0}, {60, 5, 6}, {60, 4, 6}, {60, 3, 9}, {60, 1, 9}, {60, 0, 59}, {51, 3, 9}, {50, 3, 6}};
        for (int[] d : due) {
            Due.is("24: mend " + d[0] + " " + d[1], x.mend(d[0], d[1]), d[2]);
        }
        x.broken(59, 1);
        Due.is("24: all", x.mend(1, 0), 60);
        x.broken(0, 9);
        Due.is("24: the first", x.mend(1, 8) * 10 + x.mend(1, 9), 10);
        x.cut(1);
        x.broken(57, 1);
        Due.is("24: plenty", x.mend(60, GREATEST), 0);
        Due.is("24: changes nothing", x.worst(60), 8);
        int[][] bad = {{0, 1}, {61, 1}, {LEAST, 1}, {GREATEST, 1}, {1, -1}, {1, LEAST}};
        for (int[] b : bad) {
            Due.is("24: bad", x.mend(b[0], b[1]), -2);
        }
    }
}
