import java.util.Random;

/**
 * Runs of calls, chosen at random with a fixed seed, held against PlainWinder answer by answer (all promises). Nothing
 * is promised of an object behind its 512th call.
 */
public final class RandomCallsTest {
    private static final int[] ODD = {
        Integer.MIN_VALUE, Integer.MIN_VALUE + 1, -1000000, -1001, -1000, -401, -61, -11, -3, -2, -1, 0, 1, 2, 3, 5, 6, 7, 8,
        9, 10, 11, 20, 21, 40, 41, 50, 51, 59, 60, 61, 99, 100, 101, 400, 401, 500, 501, 1000, 1001, 1000000,
        Integer.MAX_VALUE - 1, Integer.MAX_VALUE
    };

    /** The items of a full row, digest and finding, and up to ten calls more. */
    private static final int MOST_IN_A_ROUND = 72;

    private final Random random;
    private final ShaftWinder x = new ShaftWinder();
    private final PlainWinder y = new PlainWinder();
    private final int oddness;
    private int calls;
    private String call;

    private RandomCallsTest(long seed, int oddness) {
        random = new Random(seed);
        this.oddness = oddness;
    }

    public static void main(String[] args) {
        for (int run = 0; run < 3000; run++) {
            new RandomCallsTest(run, run % 4 == 0 ? 3 : 40).go(run);
        }
        Due.end();
    }

    private void go(int run) {
        for (int i = 0; calls + MOST_IN_A_ROUND <= 512; i++) {
            call = "run " + run + ", call " + i + ": ";
            int kind = random.nextInt(100);
            if (kind < 30) {
                ride(random.nextInt(9));
            } else if (kind < 45) {
                shaft(random.nextInt(12));
            } else if (kind < 55) {
                pulls(random.nextInt(5));
            } else if (kind < 65) {
                book(random.nextInt(5));
            } else if (kind < 70) {
                shifts(random.nextBoolean());
            } else {
                sheets(random.nextInt(12));
            }
            due("digest", x.digest(), y.digest());
            due("finding", x.state(12), y.state(12));
        }
    }

    private int num(int least, int most) {
        if (random.nextInt(oddness) == 0) {
            return ODD[random.nextInt(ODD.length)];
        }
        return random.nextInt(12) == 0 ? (random.nextBoolean() ? least - 1 : most + 1)
            : random.nextInt(6) == 0 ? (random.nextBoolean() ? least : most)
            : least + random.nextInt(most - least + 1);
    }

    private int place() {
        return num(0, y.d);
    }

    private void due(String name, long got, long want) {
        calls++;
        Due.is(call + name, got, want);
    }

    private void shaft(int which) {
        int a = place(), b = place(), c = num(1, 20);
        switch (which) {
            case 0:
                if (random.nextInt(4) == 0) {
                    int d = num(10, random.nextBoolean() ? 60 : 400), v = num(1, 20), change = num(1, 5);
                    due("shaft", x.shaft(d, v, change), y.shaft(d, v, change));
                }
                break;
            case 1:
                int from = random.nextInt(20) == 0 ? a : Math.min(a, b), to = Math.max(a, b);
                due("zone", x.zone(from, to, c), y.zone(from, to, c));
                break;
            case 2: case 3: case 4:
                int code = num(1, 9);
                due("stop", x.stop(a, code), y.stop(a, code));
                break;
            case 5: case 6:
                int s = random.nextInt(10) == 0 ? num(-1, 1) : random.nextBoolean() ? 1 : -1;
                due("most", x.most(a, s), y.most(a, s));
                break;
            case 7: case 8:
                due("ticks", x.ticks(a), y.ticks(a));
                break;
            default:
                int t = num(0, 30);
                due("speed", x.speed(a, t), y.speed(a, t));
                break;
        }
    }

    private void ride(int which) {
        switch (which) {
            case 0: case 1: case 2:
                int stop = y.stops.isEmpty() ? num(0, 5) : num(0, y.stops.size() - 1);
                if (stop >= 0 && stop < y.stops.size() && random.nextInt(5) != 0) {
                    int code = y.stops.get(stop)[1];
                    due("ring", x.ring(code), y.ring(code));
                    for (int l = 0; l < 8; l++) due("link", x.link(l, true), y.link(l, true));
                }
                due("begin", x.begin(stop), y.begin(stop));
                break;
            case 3: case 4: case 5:
                int n = random.nextInt(6) == 0 ? num(1, 400) : num(1, 6);
                due("pass", x.pass(n), y.pass(n));
                break;
            case 6:
                int l = num(0, 7);
                boolean closed = random.nextInt(3) != 0;
                due("link", x.link(l, closed), y.link(l, closed));
                int strokes = num(1, 9);
                due("ring", x.ring(strokes), y.ring(strokes));
                break;
            case 7:
                int sender = num(0, 2), e = random.nextBoolean() ? num(-1000, 1000) : num(-30, 30);
                due("error", x.error(sender, e), y.error(sender, e));
                break;
            default:
                int margin = random.nextBoolean() ? num(0, 20) : num(0, 3), brake = num(1, 10);
                due("guard", x.guard(margin, brake), y.guard(margin, brake));
                int what = num(0, 12);
                due("state", x.state(what), y.state(what));
                break;
        }
    }

    private void pulls(int which) {
        int q = place();
        switch (which) {
            case 0:
                int most = random.nextBoolean() ? 1000 : 30;
                int l0 = num(0, most), l1 = num(0, most), w = num(0, 10);
                due("loads", x.loads(l0, l1, w), y.loads(l0, l1, w));
                break;
            case 1:
                int h = num(100, 400);
                due("ratio", x.ratio(h), y.ratio(h));
                break;
            case 2:
                int c = num(-9, 9);
                due("slips", x.slips(q, c), y.slips(q, c));
                break;
            case 3: due("slipAt", x.slipAt(q), y.slipAt(q)); break;
            default: due("hold", x.hold(q), y.hold(q)); break;
        }
    }

    private void book(int which) {
        int w = num(1, 60);
        switch (which) {
            case 0:
                int lay = num(0, 59), n = num(1, 99);
                due("broken", x.broken(lay, n), y.broken(lay, n));
                break;
            case 1: due("worst", x.worst(w), y.worst(w)); break;
            case 2: due("worstAt", x.worstAt(w), y.worstAt(w)); break;
            case 3:
                int k = random.nextInt(4) == 0 ? num(1, 60) : num(1, 3);
                due("cut", x.cut(k), y.cut(k));
                break;
            default:
                int m = num(0, 300);
                due("mend", x.mend(w, m), y.mend(w, m));
                break;
        }
    }

    private void shifts(boolean alone) {
        int q = place(), n = num(1, 500), c = num(1, 50), b = num(0, 100);
        if (alone) {
            due("shift", x.shift(q, n, c, b), y.shift(q, n, c, b));
        } else {
            due("both", x.both(n, c, b), y.both(n, c, b));
        }
    }

    private int form(int s) {
        return s >= 0 && s < 4 && random.nextInt(8) != 0 ? y.forms[s] : num(0, 2);
    }

    private void sheets(int which) {
        int s = num(0, 3), i = num(0, 60), form = form(s), what = num(0, 2), q = place();
        switch (which) {
            case 0:
                int n = num(0, 60);
                int newForm = num(0, 2);
                due("sheet", x.sheet(s, newForm, n), y.sheet(s, newForm, n));
                break;
            case 1:
                if (random.nextInt(4) == 0) due("lose", x.lose(s), y.lose(s));
                break;
            case 2: case 3:
                int v = random.nextInt(4) == 0 ? random.nextInt() : num(-20, 20);
                due("put", x.put(s, form, i, v), y.put(s, form, i, v));
                break;
            case 4: due("get", x.get(s, form, i), y.get(s, form, i)); break;
            case 5: case 6:
                int t = num(0, 3), j = num(0, 20), k = num(0, 20), from = num(0, 20);
                due("copy", x.copy(s, from, t, j, k), y.copy(s, from, t, j, k));
                break;
            case 7:
                if (random.nextInt(3) == 0) due("read", x.read(s), y.read(s));
                break;
            case 8: due("write", x.write(s, what), y.write(s, what)); break;
            case 9: due("plan", x.plan(s, q), y.plan(s, q)); break;
            case 10: due("check", x.check(s), y.check(s)); break;
            default:
                int back = num(0, 40);
                due("log", x.log(back, what), y.log(back, what));
                break;
        }
        for (int item = 0; s >= 0 && s < 4 && y.sheets[s] != null && item < y.sheets[s].length; item++) {
            due("item", x.get(s, y.forms[s], item), y.sheets[s][item]);
        }
    }
}
