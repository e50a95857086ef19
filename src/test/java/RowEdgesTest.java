import java.math.BigInteger;

/**
 * Parts 4 and 5 of the document's terms and promises 20 to 37, sentence by sentence: each one that names a boundary
 * case has a test of its own, which bears the sentence's words.
 */
public final class RowEdgesTest {
    private static final int LEAST = Integer.MIN_VALUE, GREATEST = Integer.MAX_VALUE;
    private static final int BYTES = 0, SHORTS = 1, INTS = 2;

    public static void main(String[] args) {
        ninetyNineAtMostAreKept();
        othersMoveUpAndNewOnesHaveNone();
        laysNextToOneAnother();
        firstOfLaysThatHaveSoMany();
        fewestLaysZeroToSixty();
        tillTheLastAreOut();
        bothCagesInTurn();
        logHasTheLatestForty();
        speedIsZeroBehindTheLastTick();
        itemsAreZeroAtFirst();
        zeroToSixtyItems();
        bytesKeepTheirLowestBits();
        shortsKeepTheirLowestBits();
        intsKeepAllBits();
        copyAsTheyWere();
        copyOfEmptyAndFullRows();
        readIsCutToWires();
        readAsManyAsItHas();
        writeTheOldestFirst();
        writeKeepsTheLowestBits();
        planAsManyAsItHasItemsFor();
        checkAllOfTheItems();
        latestFinding();
        digestWraps();
        digestOfTheRideThatIsLeft();
        Due.end();
    }

    // ---- helpers

    private static void lay(String name, ShaftWinder x, int form, int... items) {
        Due.is(name + ", sheet", x.sheet(0, form, items.length), items.length);
        for (int i = 0; i < items.length; i++) {
            Due.is(name + ", put", x.put(0, form, i, items[i]), 1);
        }
    }

    private static void items(String name, ShaftWinder x, int s, int form, int... due) {
        for (int i = 0; i < due.length; i++) {
            Due.is(name + ", item " + i, x.get(s, form, i), due[i]);
        }
    }

    /** Takes the LAYS away, one by one. */
    private static void lays(String name, ShaftWinder x, int... due) {
        for (int lay = 0; lay < due.length; lay++) {
            Due.is(name + ", lay " + lay, x.cut(1), due[lay]);
        }
    }

    // ---- part 4

    private static void ninetyNineAtMostAreKept() {
        int[] edges = {0, 1, 58, 59};
        for (int lay : edges) {
            ShaftWinder x = new ShaftWinder();
            Due.is("98", x.broken(lay, 98), 98);
            Due.is("99", x.broken(lay, 1), 99);
            Due.is("not 100", x.broken(lay, 1), 99);
            Due.is("not 198", x.broken(lay, 99), 99);
            Due.is("in that lay alone", x.worst(60) * 100 + x.worstAt(1), 9900 + lay);
        }
        ShaftWinder x = new ShaftWinder();
        for (int lay = 0; lay < 60; lay++) {
            x.broken(lay, 99);
        }
        Due.is("all of them full", x.worst(60), 5940);
        Due.is("all of them go", x.cut(60), 5940);
    }

    private static void othersMoveUpAndNewOnesHaveNone() {
        int[] cuts = {1, 2, 30, 59, 60};
        for (int k : cuts) {
            ShaftWinder x = new ShaftWinder();
            int gone = 0;
            for (int lay = 0; lay < 60; lay++) {
                x.broken(lay, lay + 1);
                gone += lay < k ? lay + 1 : 0;
            }
            Due.is("cut " + k, x.cut(k), gone);
            for (int lay = 0; lay < 60; lay++) {
                Due.is("cut " + k + ", lay " + lay, x.cut(1), lay + k < 60 ? lay + k + 1 : 0);
            }
            Due.is("no more", x.worst(60), 0);
        }
        Due.is("of a new one", new ShaftWinder().cut(60), 0);
    }

    private static void laysNextToOneAnother() {
        ShaftWinder x = new ShaftWinder();
        x.broken(0, 10);
        x.broken(59, 20);
        int[][] due = {{1, 20, 59}, {2, 20, 58}, {59, 20, 1}, {60, 30, 0}};
        for (int[] d : due) {
            Due.is("most in " + d[0], x.worst(d[0]), d[1]);
            Due.is("first of " + d[0], x.worstAt(d[0]), d[2]);
        }
        x.broken(0, 10);
        Due.is("not round from the last to the first", x.worst(2), 20);
    }

    private static void firstOfLaysThatHaveSoMany() {
        ShaftWinder x = new ShaftWinder();
        Due.is("none anywhere", x.worstAt(1) + x.worstAt(30) + x.worstAt(60), 0);
        x.broken(20, 5);
        x.broken(40, 5);
        int[][] due = {{1, 20}, {2, 19}, {20, 1}, {21, 20}, {22, 19}, {40, 1}, {41, 0}, {60, 0}};
        for (int[] d : due) {
            Due.is("first of " + d[0], x.worstAt(d[0]), d[1]);
        }
        x.broken(40, 1);
        Due.is("the later one has more", x.worstAt(1) * 100 + x.worstAt(2), 4039);
    }

    private static void fewestLaysZeroToSixty() {
        ShaftWinder x = new ShaftWinder();
        Due.is("nothing broken", x.mend(1, 0) + x.mend(60, 0), 0);
        x.broken(59, 3);
        int[] widths = {1, 2, 59, 60};
        for (int w : widths) {
            Due.is("just as many", x.mend(w, 3), 0);
            Due.is("one more than may be", x.mend(w, 2), 60);
            Due.is("none may be", x.mend(w, 0), 60);
        }
        x.broken(0, 4);
        Due.is("the first alone", x.mend(1, 3), 1);
        Due.is("both are too many", x.mend(60, 6), 1);
        Due.is("both are just as many", x.mend(60, 7), 0);
        Due.is("both are never in 59", x.mend(59, 4), 0);
        Due.is("no end", x.mend(60, GREATEST), 0);
        Due.is("below none", x.mend(60, -1), -2);
        Due.is("nothing was cut", x.worst(60), 7);
    }

    private static void tillTheLastAreOut() {
        ShaftWinder x = new ShaftWinder();
        int ride = 14;
        int[][] trips = {{1, 1, 1}, {1, 50, 1}, {49, 50, 1}, {50, 50, 1}, {51, 50, 2}, {100, 50, 2}, {101, 50, 3}, {500, 50, 10},
            {499, 50, 10}, {451, 50, 10}, {450, 50, 9}, {500, 1, 500}, {2, 1, 2}};
        int[] boarding = {0, 1, 100};
        for (int[] t : trips) {
            for (int b : boarding) {
                String name = t[0] + " men, " + t[1] + " at a time, " + b + " ticks";
                Due.is("shift, " + name, x.shift(100, t[0], t[1], b), t[2] * (2 * b + ride) + (t[2] - 1) * ride);
                Due.is("shift to 0, " + name, x.shift(0, t[0], t[1], b), t[2] * 2 * b);
            }
        }
        Due.is("a place", x.shift(1, 3, 1, 0), 5);
    }

    private static void bothCagesInTurn() {
        ShaftWinder x = new ShaftWinder();
        int[][] rides = {{1, 1, 1}, {50, 50, 1}, {51, 50, 2}, {100, 50, 2}, {101, 50, 3}, {500, 50, 10}, {500, 1, 500}};
        int[] boarding = {0, 1, 100};
        for (int[] r : rides) {
            for (int b : boarding) {
                Due.is("both, " + r[0] + " men, " + r[1] + " at a time", x.both(r[0], r[1], b), b + r[2] * (14 + b));
            }
        }
        x.shaft(10, 1, 1);
        Due.is("the least shaft", x.both(2, 1, 0), 20);
        x.shaft(400, 1, 1);
        Due.is("the longest", x.both(500, 1, 100), 100 + 500 * 500);
        Due.is("the longest shift", x.shift(400, 500, 1, 100), 500 * 600 + 499 * 400);
    }

    // ---- part 5

    private static void logHasTheLatestForty() {
        int[] ticks = {1, 39, 40, 41, 79, 80, 81, 120, 399};
        for (int n : ticks) {
            ShaftWinder x = Made.riding(400, 1, 1, 400);
            Due.is("none yet", x.log(0, 0), -2000);
            x.pass(n);
            int kept = Math.min(n, 40);
            for (int i = 0; i < kept; i++) {
                Due.is(n + " ticks, place " + i, x.log(i, 0), n - i);
                Due.is(n + " ticks, speed " + i, x.log(i, 1), 1);
                Due.is(n + " ticks, how " + i, x.log(i, 2), 1);
            }
            for (int what = 0; what < 3; what++) {
                Due.is(n + " ticks, behind the oldest", x.log(kept, what), -2000);
                Due.is(n + " ticks, ahead of the latest", x.log(-1, what), -2000);
            }
            Due.is("the count goes on", x.state(6), n);
        }
    }

    private static void speedIsZeroBehindTheLastTick() {
        ShaftWinder x = Made.riding(100, 10, 2, 18);
        x.pass(6);
        int[][] due = {{18, 0, 0}, {18, 0, 0}, {16, 4, 1}, {12, 6, 1}, {6, 4, 1}, {2, 2, 1}};
        for (int i = 0; i < due.length; i++) {
            for (int what = 0; what < 3; what++) {
                Due.is("log " + i + " " + what, x.log(i, what), due[i][what]);
            }
        }
    }

    private static void itemsAreZeroAtFirst() {
        for (int form = 0; form < 3; form++) {
            ShaftWinder x = new ShaftWinder();
            for (int s = 0; s < 4; s++) {
                Due.is("lost at first", x.put(s, form, 0, 0), -11);
            }
            x.sheet(0, form, 60);
            for (int i = 0; i < 60; i++) {
                Due.is("0 at first", x.get(0, form, i), 0);
                x.put(0, form, i, i + 1);
            }
            x.lose(0);
            x.sheet(0, form, 60);
            for (int i = 0; i < 60; i++) {
                Due.is("0 again", x.get(0, form, i), 0);
            }
            x.put(0, form, 30, 5);
            x.sheet(0, form, 10);
            x.sheet(0, form, 60);
            Due.is("0 behind a shorter one", x.get(0, form, 30), 0);
        }
    }

    private static void zeroToSixtyItems() {
        int[] sizes = {0, 1, 59, 60};
        for (int n : sizes) {
            for (int form = 0; form < 3; form++) {
                ShaftWinder x = new ShaftWinder();
                Due.is("sheet", x.sheet(3, form, n), n);
                Due.is("the last item", x.put(3, form, n - 1, 7), n == 0 ? -12 : 1);
                Due.is("the last item", x.get(3, form, n - 1), n == 0 ? LEAST : 7);
                Due.is("behind the last", x.put(3, form, n, 7), -12);
                Due.is("behind the last", x.get(3, form, n), LEAST);
                Due.is("ahead of the first", x.put(3, form, -1, 7), -12);
                Due.is("how many it had", x.lose(3), n);
                Due.is("it is lost", x.lose(3), -11);
            }
        }
        ShaftWinder x = new ShaftWinder();
        Due.is("above 60", x.sheet(3, 0, 61), -2);
        Due.is("below 0", x.sheet(3, 0, -1), -15);
        Due.is("still lost", x.lose(3), -11);
    }

    private static void bits(String name, int form, int[][] due) {
        ShaftWinder x = new ShaftWinder();
        x.sheet(1, form, 60);
        for (int[] d : due) {
            Due.is(name + ", put " + d[0], x.put(1, form, 59, d[0]), 1);
            Due.is(name + ", get " + d[0], x.get(1, form, 59), d[1]);
        }
    }

    private static void bytesKeepTheirLowestBits() {
        bits("bytes", BYTES, new int[][] {{0, 0}, {127, 127}, {128, -128}, {255, -1}, {256, 0}, {257, 1}, {383, 127}, {384, -128},
            {-1, -1}, {-128, -128}, {-129, 127}, {-256, 0}, {-257, -1}, {GREATEST, -1}, {LEAST, 0}, {0x12345680, -128}});
    }

    private static void shortsKeepTheirLowestBits() {
        bits("shorts", SHORTS, new int[][] {{128, 128}, {32767, 32767}, {32768, -32768}, {65535, -1}, {65536, 0}, {65537, 1},
            {-1, -1}, {-32768, -32768}, {-32769, 32767}, {-65536, 0}, {-65537, -1}, {GREATEST, -1}, {LEAST, 0},
            {0x12348000, -32768}});
    }

    private static void intsKeepAllBits() {
        bits("ints", INTS, new int[][] {{0, 0}, {65536, 65536}, {-65537, -65537}, {GREATEST, GREATEST}, {LEAST, LEAST}});
        ShaftWinder x = new ShaftWinder();
        lay("the least int", x, INTS, LEAST);
        Due.is("the least int is no finding", x.get(0, INTS, 0), LEAST);
        Due.is("the least int is no finding", x.state(12), 0);
    }

    private static void copyAsTheyWere() {
        int[][] due = {{0, 1, 4, 1, 1, 2, 3, 4}, {1, 0, 4, 2, 3, 4, 5, 5}, {0, 0, 5, 1, 2, 3, 4, 5}, {0, 4, 1, 1, 2, 3, 4, 1},
            {4, 0, 1, 5, 2, 3, 4, 5}, {0, 2, 3, 1, 2, 1, 2, 3}, {2, 0, 3, 3, 4, 5, 4, 5}, {5, 5, 0, 1, 2, 3, 4, 5},
            {0, 5, 0, 1, 2, 3, 4, 5}};
        for (int form = 0; form < 3; form++) {
            for (int[] d : due) {
                ShaftWinder x = new ShaftWinder();
                lay("copy", x, form, 1, 2, 3, 4, 5);
                Due.is("copy to itself", x.copy(0, d[0], 0, d[1], d[2]), 1);
                items("copy from " + d[0] + " to " + d[1], x, 0, form, d[3], d[4], d[5], d[6], d[7]);
            }
        }
    }

    private static void copyOfEmptyAndFullRows() {
        ShaftWinder x = new ShaftWinder();
        x.sheet(0, INTS, 0);
        x.sheet(1, INTS, 60);
        x.sheet(2, INTS, 60);
        x.sheet(3, BYTES, 0);
        x.put(1, INTS, 0, 5);
        x.put(1, INTS, 59, 6);
        Due.is("none of none", x.copy(0, 0, 0, 0, 0), 1);
        Due.is("none of none to the end of a full row", x.copy(0, 0, 1, 60, 0), 1);
        Due.is("none from the end of a full row", x.copy(1, 60, 0, 0, 0), 1);
        Due.is("none from behind the end", x.copy(1, 61, 0, 0, 0), -12);
        Due.is("none to behind the end", x.copy(0, 0, 1, 61, 0), -12);
        Due.is("one of none", x.copy(0, 0, 1, 0, 1), -12);
        Due.is("one to none", x.copy(1, 0, 0, 0, 1), -12);
        Due.is("all", x.copy(1, 0, 2, 0, 60), 1);
        Due.is("the first and the last", x.get(2, INTS, 0) * 10 + x.get(2, INTS, 59), 56);
        Due.is("more than all", x.copy(1, 0, 2, 0, 61), -12);
        Due.is("all but one from 1", x.copy(1, 1, 2, 0, 59), 1);
        Due.is("the last", x.get(2, INTS, 58) * 10 + x.get(2, INTS, 59), 66);
        Due.is("none, of unlike forms", x.copy(3, 0, 0, 0, 0), -14);
        Due.is("the last to the first", x.copy(1, 59, 2, 0, 1) + x.get(2, INTS, 0), 7);
    }

    private static void readIsCutToWires() {
        ShaftWinder x = new ShaftWinder();
        lay("ints", x, INTS, LEAST, -1, 0, 1, 98, 99, 100, GREATEST);
        Due.is("how many", x.read(0), 8);
        lays("ints", x, 0, 0, 0, 1, 98, 99, 99, 99, 0);
        lay("bytes", x, BYTES, 127, 128, 99, 100, 255);
        Due.is("how many", x.read(0), 5);
        lays("bytes", x, 99, 0, 99, 99, 0, 0);
        lay("shorts", x, SHORTS, 32767, 32768, 98, -1);
        Due.is("how many", x.read(0), 4);
        lays("shorts", x, 99, 0, 98, 0, 0);
    }

    private static void readAsManyAsItHas() {
        int[] sizes = {0, 1, 59, 60};
        for (int n : sizes) {
            ShaftWinder x = new ShaftWinder();
            x.broken(0, 50);
            x.broken(58, 50);
            x.broken(59, 50);
            x.sheet(0, SHORTS, n);
            Due.is("how many", x.read(0), n);
            Due.is("the others stay", x.worst(60), n == 0 ? 150 : n == 1 ? 100 : n == 59 ? 50 : 0);
        }
    }

    private static void writeTheOldestFirst() {
        int[][] due = {{0, 60, 0}, {5, 0, 0}, {5, 4, 4}, {5, 5, 5}, {5, 6, 5}, {39, 60, 39}, {40, 60, 40}, {41, 60, 40},
            {200, 60, 40}, {200, 40, 40}, {200, 39, 39}, {200, 41, 40}, {200, 1, 1}, {200, 0, 0}};
        for (int[] d : due) {
            ShaftWinder x = Made.riding(400, 1, 1, 400);
            if (d[0] > 0) {
                x.pass(d[0]);
            }
            x.sheet(2, SHORTS, d[1]);
            for (int i = 0; i < d[1]; i++) {
                x.put(2, SHORTS, i, -5);
            }
            String name = d[0] + " ticks to " + d[1] + " items";
            Due.is(name, x.write(2, 0), d[2]);
            for (int i = 0; i < d[1]; i++) {
                Due.is(name + ", item " + i, x.get(2, SHORTS, i), i < d[2] ? d[0] - d[2] + 1 + i : -5);
            }
        }
    }

    private static void writeKeepsTheLowestBits() {
        ShaftWinder x = Made.riding(400, 20, 5, 400);
        x.pass(30);
        x.sheet(0, BYTES, 1);
        x.sheet(1, SHORTS, 1);
        x.write(0, 0);
        x.write(1, 0);
        Due.is("400 as a byte", x.get(0, BYTES, 0), (byte) 400);
        Due.is("400 as a short", x.get(1, SHORTS, 0), 400);
        int[] places = {127, 128, 255, 256};
        int[] due = {127, -128, -1, 0};
        for (int n = 0; n < places.length; n++) {
            x = Made.riding(400, 1, 1, places[n]);
            x.pass(400);
            x.sheet(0, BYTES, 60);
            Due.is("forty", x.write(0, 0), 40);
            Due.is("as a byte", x.get(0, BYTES, 39), due[n]);
        }
    }

    private static void planAsManyAsItHasItemsFor() {
        int[] ride = {2, 4, 6, 4, 2};
        int[] sizes = {0, 1, 4, 5, 6, 60};
        for (int n : sizes) {
            for (int form = 0; form < 3; form++) {
                ShaftWinder x = new ShaftWinder();
                x.sheet(1, form, n);
                for (int i = 0; i < n; i++) {
                    x.put(1, form, i, 77);
                }
                Due.is("plan", x.plan(1, 18), Math.min(n, 5));
                for (int i = 0; i < n; i++) {
                    Due.is("item " + i, x.get(1, form, i), i < 5 ? ride[i] : 77);
                }
            }
        }
        ShaftWinder x = new ShaftWinder();
        x.shaft(400, 1, 1);
        x.sheet(0, BYTES, 60);
        Due.is("the longest ride", x.plan(0, 400), 60);
        x.shaft(400, 20, 5);
        x.stop(400, 1);
        x.ring(1);
        x.begin(0);
        x.pass(400);
        Due.is("the fastest, up, as bytes", x.plan(0, 0) * 100 + x.get(0, BYTES, 4), 2280);
    }

    private static void checkAllOfTheItems() {
        ShaftWinder x = new ShaftWinder();
        x.shaft(60, 1, 1);
        x.sheet(0, BYTES, 0);
        Due.is("none", x.check(0), 1000);
        x.sheet(0, BYTES, 60);
        Due.is("all standing", x.check(0), 1060);
        for (int i = 0; i < 60; i++) {
            x.put(0, BYTES, i, 1);
        }
        Due.is("all down to D", x.check(0), 1060);
        x.put(0, BYTES, 59, 2);
        Due.is("all but the last", x.check(0), 59);
        x.put(0, BYTES, 0, 2);
        Due.is("not the first", x.check(0), 0);
        x.shaft(59, 1, 1);
        x.put(0, BYTES, 0, 1);
        x.put(0, BYTES, 59, 1);
        Due.is("the last goes beyond D", x.check(0), 59);
        x.shaft(400, 20, 5);
        lay("it may not stand", x, INTS, 5, 10);
        Due.is("it may not stand", x.check(0), 2);
        lay("it may stand", x, INTS, 5, 10, 5);
        Due.is("it may stand", x.check(0), 1003);
        lay("a row whose last item is not reached", x, INTS, 6, 0);
        Due.is("a row whose last item is not reached", x.check(0), 0);
    }

    private static void latestFinding() {
        ShaftWinder x = new ShaftWinder();
        Due.is("before any", x.state(12), 0);
        x.put(9, 0, 0, 0);
        x.begin(0);
        Due.is("BAD is none", x.state(12), 0);
        x.sheet(0, BYTES, 1);
        x.sheet(1, INTS, 1);
        int[] answers = {x.lose(3), x.state(12), x.put(0, BYTES, 1, 0), x.state(12), x.put(0, INTS, 0, 0), x.state(12),
            x.copy(0, 0, 1, 0, 1), x.state(12), x.sheet(0, 0, -1), x.state(12), x.read(2), x.state(12)};
        int[] due = {-11, 1, -12, 2, -13, 3, -14, 4, -15, 5, -11, 1};
        for (int n = 0; n < due.length; n++) {
            Due.is("finding " + n, answers[n], due[n]);
        }
        x.put(0, BYTES, 0, 3);
        x.shaft(50, 5, 5);
        Due.is("calls that are no finding leave it", x.state(12), 1);
    }

    private static BigInteger fold(BigInteger h, long... numbers) {
        for (long n : numbers) {
            h = h.multiply(BigInteger.valueOf(31)).add(BigInteger.valueOf(n));
        }
        return h;
    }

    /** Without a bound the number would be far greater than a long. */
    private static void digestWraps() {
        ShaftWinder x = new ShaftWinder();
        long[] lays = new long[60];
        for (int lay = 0; lay < 60; lay++) {
            lays[lay] = 1 + lay * 7 % 99;
            x.broken(lay, (int) lays[lay]);
        }
        x.error(0, -1000);
        x.error(1, -1000);
        BigInteger h = fold(BigInteger.valueOf(17), 0, 0, 0, 0, 0, -1000, 0, 0, 0, 0, 0, 0);
        h = fold(h, lays);
        Due.is("greater than a long", h.bitLength() > 64 ? 1 : 0, 1);
        Due.is("it wraps", x.digest(), h.longValue());
        x.lose(0);
        Due.is("state 12 is no part of it", x.digest(), h.longValue());
        Due.is("again", x.digest(), h.longValue());
        x.cut(60);
        h = fold(fold(BigInteger.valueOf(17), 0, 0, 0, 0, 0, -1000, 0, 0, 0, 0, 0, 0), new long[60]);
        Due.is("empty lays", x.digest(), h.longValue());
    }

    private static void digestOfTheRideThatIsLeft() {
        ShaftWinder x = Made.riding(400, 1, 1, 400);
        BigInteger h = fold(fold(BigInteger.valueOf(17), 0, 0, 1, 0, 0, 0, 0, 400, 0, 0, 0, 1), new long[60]);
        for (int tick = 0; tick < 400; tick++) {
            h = fold(h, 1);
        }
        Due.is("all of it", x.digest(), h.longValue());
        x.pass(399);
        h = fold(fold(fold(BigInteger.valueOf(17), 399, 1, 1, 0, 0, 399, 399, 1, 0, 0, 0, 1), new long[60]), 1);
        Due.is("its last tick", x.digest(), h.longValue());
        x.pass(1);
        h = fold(fold(BigInteger.valueOf(17), 400, 0, 0, 0, 0, 400, 400, 0, 1, 0, 0, 1), new long[60]);
        Due.is("none of it", x.digest(), h.longValue());
        x.stop(0, 2);
        x.ring(2);
        x.begin(1);
        x.pass(398);
        h = fold(fold(BigInteger.valueOf(17), 2, -1, 1, 0, 0, 2, 798, 2, 1, 0, 0, 2), new long[60]);
        Due.is("up", x.digest(), fold(h, -1, -1).longValue());
    }
}
