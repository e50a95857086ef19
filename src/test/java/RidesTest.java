import java.util.List;
import java.util.Random;

/** THE RIDE, held against a search over all places and speeds, of both ways (promises 3, 5, 6, 7, 12, 35). */
public final class RidesTest {
    public static void main(String[] args) {
        Random random = new Random(20261116);
        for (int run = 0; run < 500; run++) {
            rides(run, random);
        }
        everyPlaceOfSmallShafts();
        Due.end();
    }

    private static void lay(ShaftWinder x, PlainWinder y, Random random, int deepest, String name) {
        int d = 10 + random.nextInt(deepest - 9);
        int v = 1 + random.nextInt(20);
        int a = 1 + random.nextInt(5);
        Due.is(name + "shaft", x.shaft(d, v, a), y.shaft(d, v, a));
        int zones = random.nextInt(7);
        for (int z = 0; z < zones; z++) {
            int from = random.nextInt(d + 1);
            int to = Math.min(d, from + random.nextInt(1 + d / 4));
            int w = 1 + random.nextInt(random.nextBoolean() ? 20 : 5);
            Due.is(name + "zone", x.zone(from, to, w), y.zone(from, to, w));
        }
    }

    private static void rides(int run, Random random) {
        ShaftWinder x = new ShaftWinder();
        PlainWinder y = new PlainWinder();
        lay(x, y, random, random.nextInt(4) == 0 ? 400 : 80, "run " + run + ": ");
        for (int i = 0; i < 5; i++) {
            int q = i == 0 ? y.d : random.nextInt(y.d + 1);
            sameRide("run " + run + ", from " + y.p + " to " + q + ": ", x, y, q);
            int code = 1 + random.nextInt(9);
            Due.is("stop", x.stop(q, code), y.stop(q, code));
            Due.is("ring", x.ring(code), y.ring(code));
            Due.is("begin", x.begin(i), y.begin(i));
            Due.is("digest of the whole ride", x.digest(), y.digest());
            Due.is("pass", x.pass(400), y.pass(400));
            Due.is("place", x.state(0), q);
            Due.is("digest", x.digest(), y.digest());
        }
    }

    private static void sameRide(String name, ShaftWinder x, PlainWinder y, int q) {
        List<Integer> speeds = y.ride(y.p, q);
        Due.is(name + "ticks", x.ticks(q), speeds.size());
        // No more of the longest rides, for the sake of the 512 calls of an object: a digest has all speeds.
        for (int t = 1; t <= Math.min(speeds.size(), 60); t++) {
            Due.is(name + "speed " + t, x.speed(q, t), speeds.get(t - 1));
        }
        Due.is(name + "speed behind", x.speed(q, speeds.size() + 1), -1000);
    }

    private static void everyPlaceOfSmallShafts() {
        for (int run = 0; run < 60; run++) {
            for (int place = 0; place <= 30; place++) {
                ShaftWinder x = new ShaftWinder();
                PlainWinder y = new PlainWinder();
                String name = "small " + run + ", place " + place + ": ";
                lay(x, y, new Random(run), 30, name);
                Due.is(name + "most down", x.most(place, 1), y.most(place, 1));
                Due.is(name + "most up", x.most(place, -1), y.most(place, -1));
                if (place <= y.d) {
                    sameRide(name, x, y, place);
                }
                Due.is(name + "shift", x.shift(place, 7, 3, 1), y.shift(place, 7, 3, 1));
                Due.is(name + "both", x.both(9, 2, 3), y.both(9, 2, 3));
            }
        }
    }
}
