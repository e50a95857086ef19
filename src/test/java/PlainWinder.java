import java.util.ArrayDeque;
import java.util.ArrayList;
import java.util.Arrays;
import java.util.List;

/**
 * The document once more, word by word and without regard to speed: rides are sought over all places and all
 * speeds of both ways, laws are looked up zone by zone. RandomCallsTest and RidesTest hold the program against it.
 */
final class PlainWinder {
    int d = 100, v = 10, a = 2;
    final List<int[]> zones = new ArrayList<>();
    final List<int[]> stops = new ArrayList<>();
    int p, speed, how, bell, passed, ended, braked, finding;
    final boolean[] open = new boolean[8];
    final int[] errors = new int[3];
    int margin = 20, brake = 3;
    List<Integer> ride = new ArrayList<>();
    int load0, load1, weight, ratio = 400;
    int[] lays = new int[60];
    final List<int[]> log = new ArrayList<>();
    final int[][] sheets = new int[4][];
    final int[] forms = new int[4];

    static boolean in(long n, long least, long most) {
        return least <= n && n <= most;
    }

    // ---- laws

    static boolean inZone(int[] zone, int place) {
        return zone[0] <= place && place <= zone[1];
    }

    boolean lawful(int from, long s) {
        if (Math.abs(s) > v || !in(from + s, 0, d)) {
            return false;
        }
        for (int place = (int) Math.min(from, from + s); place <= Math.max(from, from + s); place++) {
            for (int[] zone : zones) {
                if ((inZone(zone, place) || inZone(zone, d - place)) && Math.abs(s) > zone[2]) {
                    return false;
                }
            }
        }
        return true;
    }

    /** The fewest ticks from each place (first) with each speed before (second, v more) to q; -1: none. */
    int[][] ticksTo(int q) {
        int[][] left = new int[d + 1][2 * v + 1];
        for (int[] row : left) {
            Arrays.fill(row, -1);
        }
        ArrayDeque<int[]> next = new ArrayDeque<>();
        for (int s = -Math.min(a, v); s <= Math.min(a, v); s++) {
            left[q][s + v] = 0;
            next.add(new int[] {q, s});
        }
        while (!next.isEmpty()) {
            int[] at = next.remove();
            int from = at[0] - at[1];
            if (!in(from, 0, d) || !lawful(from, at[1])) {
                continue;
            }
            for (int before = Math.max(-v, at[1] - a); before <= Math.min(v, at[1] + a); before++) {
                if (left[from][before + v] < 0) {
                    left[from][before + v] = left[at[0]][at[1] + v] + 1;
                    next.add(new int[] {from, before});
                }
            }
        }
        return left;
    }

    List<Integer> ride(int from, int q) {
        List<Integer> speeds = new ArrayList<>();
        if (from == q) {
            return speeds;
        }
        int[][] left = ticksTo(q);
        int toward = q > from ? 1 : -1;
        int at = from;
        int before = 0;
        for (int n = left[from][v]; n > 0; n--) {
            Integer chosen = null;
            for (int s = Math.max(-v, before - a); s <= Math.min(v, before + a); s++) {
                boolean best = lawful(at, s) && left[at + s][s + v] == n - 1;
                if (best && (chosen == null || s * toward > chosen * toward)) {
                    chosen = s;
                }
            }
            speeds.add(chosen);
            at += chosen;
            before = chosen;
        }
        return speeds;
    }

    // ---- the shaft

    int shaft(int dd, int vv, int aa) {
        if (!in(dd, 10, 400) || !in(vv, 1, 20) || !in(aa, 1, 5)) return -2;
        if (how != 0) return -4;
        d = dd;
        v = vv;
        a = aa;
        zones.clear();
        stops.clear();
        p = 0;
        return 1;
    }

    int zone(int from, int to, int w) {
        if (!in(from, 0, d) || !in(to, 0, d) || from > to || !in(w, 1, 20)) return -2;
        if (zones.size() == 6) return -3;
        if (how != 0) return -4;
        zones.add(new int[] {from, to, w});
        return zones.size();
    }

    int stop(int place, int code) {
        if (!in(place, 0, d) || !in(code, 1, 9)) return -2;
        if (stops.size() == 6) return -3;
        stops.add(new int[] {place, code});
        return stops.size() - 1;
    }

    int most(int from, int s) {
        if (!in(from, 0, d) || Math.abs((long) s) != 1) return -2;
        int most = 0;
        for (int u = 0; u <= v; u++) {
            if (lawful(from, u * s)) most = u;
        }
        return most;
    }

    int ticks(int q) {
        if (!in(q, 0, d)) return -2;
        return how != 0 ? -4 : ride(p, q).size();
    }

    int speed(int q, int t) {
        if (!in(q, 0, d)) return -2000;
        if (how != 0) return -3000;
        List<Integer> speeds = ride(p, q);
        return in(t, 1, speeds.size()) ? speeds.get(t - 1) : -1000;
    }

    // ---- riding

    int ring(int n) {
        if (!in(n, 1, 9)) return -2;
        bell = n;
        return 1;
    }

    int link(int l, boolean closed) {
        if (!in(l, 0, 7)) return -2;
        open[l] = !closed;
        return 1;
    }

    int error(int sender, int e) {
        if (!in(sender, 0, 2) || !in(e, -1000, 1000)) return -2;
        errors[sender] = e;
        return 1;
    }

    int guard(int m, int b) {
        if (!in(m, 0, 20) || !in(b, 1, 10)) return -2;
        margin = m;
        brake = b;
        return 1;
    }

    int openLinks() {
        int n = 0;
        for (boolean o : open) n += o ? 1 : 0;
        return n;
    }

    int told() {
        int[] tell = {p + errors[0], p + errors[1], p + errors[2]};
        Arrays.sort(tell);
        return tell[1];
    }

    int begin(int stop) {
        if (!in(stop, 0, stops.size() - 1)) return -2;
        if (how != 0 || openLinks() != 0 || bell != stops.get(stop)[1]) return -4;
        ride = ride(p, stops.get(stop)[0]);
        bell = 0;
        how = ride.isEmpty() ? 0 : 1;
        return ride.size();
    }

    boolean tooFast(int s) {
        int allowed = Integer.MAX_VALUE;
        for (int[] zone : zones) {
            if (inZone(zone, told()) || inZone(zone, d - told())) allowed = Math.min(allowed, zone[2]);
        }
        return Math.abs(s) - (long) (allowed == Integer.MAX_VALUE ? v : allowed) > margin;
    }

    int pass(int n) {
        if (!in(n, 1, 400)) return -2;
        for (int i = 0; i < n; i++) {
            passed++;
            if (how == 1 && (openLinks() > 0 || tooFast(ride.get(0)))) {
                how = 2;
                braked++;
                ride.clear();
            }
            if (how == 1) {
                speed = ride.remove(0);
                p += speed;
                if (ride.isEmpty()) {
                    how = 0;
                    speed = 0;
                    ended++;
                }
            } else if (how == 2) {
                speed = Integer.signum(speed) * Math.max(0, Math.abs(speed) - brake);
                int to = p + speed;
                p = Math.max(0, Math.min(d, to));
                if (p != to) speed = 0;
                if (speed == 0) how = 0;
            }
            log.add(0, new int[] {p, speed, how});
            if (log.size() > 40) log.remove(40);
        }
        return how;
    }

    int state(int what) {
        int[] all = {p, speed, how, bell, openLinks(), told(), passed, ride.size(), ended, braked,
            zones.size(), stops.size(), finding};
        return in(what, 0, 12) ? all[what] : -2000;
    }

    // ---- pulls

    int loads(int l0, int l1, int w) {
        if (!in(l0, 0, 1000) || !in(l1, 0, 1000) || !in(w, 0, 10)) return -2;
        load0 = l0;
        load1 = l1;
        weight = w;
        return 1;
    }

    int ratio(int h) {
        if (!in(h, 100, 400)) return -2;
        int was = ratio;
        ratio = h;
        return was;
    }

    boolean slipping(int place, int c, int r) {
        long one = (long) (load0 + weight * place + 1) * (10 - c);
        long other = (long) (load1 + weight * (d - place) + 1) * (10 + c);
        return 100 * Math.max(one, other) > r * Math.min(one, other);
    }

    int slips(int place, int c) {
        if (!in(place, 0, d) || !in(c, -9, 9)) return -2;
        return slipping(place, c, ratio) ? 1 : 0;
    }

    int slipWith(int q, int r) {
        List<Integer> speeds = ride(p, q);
        int place = p;
        int before = 0;
        for (int t = 1; t <= speeds.size(); t++) {
            if (slipping(place, speeds.get(t - 1) - before, r)) return t;
            before = speeds.get(t - 1);
            place += before;
        }
        return !speeds.isEmpty() && slipping(q, -before, r) ? speeds.size() + 1 : -1;
    }

    int slipAt(int q) {
        if (!in(q, 0, d)) return -2;
        return how != 0 ? -4 : slipWith(q, ratio);
    }

    int hold(int q) {
        if (!in(q, 0, d)) return -2;
        if (how != 0) return -4;
        int least = 100;
        List<Integer> speeds = ride(p, q);
        int place = p;
        int before = 0;
        for (int t = 0; t <= speeds.size() && !speeds.isEmpty(); t++) {
            int s = t < speeds.size() ? speeds.get(t) : 0;
            while (least <= 400 && slipping(place, s - before, least)) least++;
            place += s;
            before = s;
        }
        return least > 400 ? -1 : least;
    }

    // ---- the book

    int broken(int lay, int n) {
        if (!in(lay, 0, 59) || !in(n, 1, 99)) return -2;
        lays[lay] = Math.min(99, lays[lay] + n);
        return lays[lay];
    }

    static int[] worstOf(int[] row, int w) {
        int[] worst = {-1, -1};
        for (int i = 0; i + w <= 60; i++) {
            int sum = Arrays.stream(row, i, i + w).sum();
            if (sum > worst[0]) worst = new int[] {sum, i};
        }
        return worst;
    }

    int worst(int w) {
        return in(w, 1, 60) ? worstOf(lays, w)[0] : -2;
    }

    int worstAt(int w) {
        return in(w, 1, 60) ? worstOf(lays, w)[1] : -2;
    }

    int cut(int k) {
        if (!in(k, 1, 60)) return -2;
        int gone = Arrays.stream(lays, 0, k).sum();
        lays = Arrays.copyOfRange(lays, k, k + 60);
        return gone;
    }

    int mend(int w, int m) {
        if (!in(w, 1, 60) || m < 0) return -2;
        int k = 0;
        while (worstOf(Arrays.copyOfRange(lays, k, k + 60), w)[0] > m) k++;
        return k;
    }

    // ---- shifts

    static boolean men(int n, int c, int b) {
        return in(n, 1, 500) && in(c, 1, 50) && in(b, 0, 100);
    }

    int shift(int q, int n, int c, int b) {
        if (!in(q, 0, d) || !men(n, c, b)) return -2;
        int there = ride(0, q).size();
        int back = ride(q, 0).size();
        int all = 0;
        for (int men = n; men > 0; men -= c) {
            all += b + there + b + (men > c ? back : 0);
        }
        return all;
    }

    int both(int n, int c, int b) {
        if (!men(n, c, b)) return -2;
        int[] ways = {ride(0, d).size(), ride(d, 0).size()};
        int all = b;
        int way = 0;
        for (int men = n; men > 0; men -= c) {
            all += ways[way] + b;
            way = 1 - way;
        }
        return all;
    }

    // ---- the log, sheets

    int log(int i, int what) {
        return in(i, 0, log.size() - 1) && in(what, 0, 2) ? log.get(i)[what] : -2000;
    }

    int found(int number) {
        finding = number;
        return -10 - number;
    }

    int sheet(int s, int form, int n) {
        if (!in(s, 0, 3) || !in(form, 0, 2) || n > 60) return -2;
        if (n < 0) return found(5);
        sheets[s] = new int[n];
        forms[s] = form;
        return n;
    }

    int lose(int s) {
        if (!in(s, 0, 3)) return -2;
        if (sheets[s] == null) return found(1);
        int had = sheets[s].length;
        sheets[s] = null;
        return had;
    }

    void keep(int s, int i, int value) {
        sheets[s][i] = forms[s] == 0 ? (byte) value : forms[s] == 1 ? (short) value : value;
    }

    int put(int s, int form, int i, int value) {
        if (!in(s, 0, 3) || !in(form, 0, 2)) return -2;
        if (sheets[s] == null) return found(1);
        if (forms[s] != form) return found(3);
        if (!in(i, 0, sheets[s].length - 1)) return found(2);
        keep(s, i, value);
        return 1;
    }

    int get(int s, int form, int i) {
        if (!in(s, 0, 3) || !in(form, 0, 2)) return Integer.MIN_VALUE;
        int wrong = sheets[s] == null ? 1 : forms[s] != form ? 3 : !in(i, 0, sheets[s].length - 1) ? 2 : 0;
        if (wrong != 0) {
            finding = wrong;
            return Integer.MIN_VALUE;
        }
        return sheets[s][i];
    }

    int copy(int s, int i, int t, int j, int n) {
        if (!in(s, 0, 3) || !in(t, 0, 3)) return -2;
        if (sheets[s] == null || sheets[t] == null) return found(1);
        if (forms[s] != forms[t]) return found(4);
        if (i < 0 || j < 0 || n < 0 || (long) i + n > sheets[s].length || (long) j + n > sheets[t].length) {
            return found(2);
        }
        int[] was = sheets[s].clone();
        for (int k = 0; k < n; k++) sheets[t][j + k] = was[i + k];
        return 1;
    }

    int read(int s) {
        if (!in(s, 0, 3)) return -2;
        if (sheets[s] == null) return found(1);
        for (int i = 0; i < sheets[s].length; i++) lays[i] = Math.max(0, Math.min(99, sheets[s][i]));
        return sheets[s].length;
    }

    int write(int s, int what) {
        if (!in(s, 0, 3) || !in(what, 0, 2)) return -2;
        if (sheets[s] == null) return found(1);
        int n = Math.min(log.size(), sheets[s].length);
        for (int i = 0; i < n; i++) keep(s, n - 1 - i, log.get(i)[what]);
        return n;
    }

    int plan(int s, int q) {
        if (!in(s, 0, 3) || !in(q, 0, d)) return -2;
        if (how != 0) return -4;
        if (sheets[s] == null) return found(1);
        List<Integer> speeds = ride(p, q);
        int n = Math.min(speeds.size(), sheets[s].length);
        for (int i = 0; i < n; i++) keep(s, i, speeds.get(i));
        return n;
    }

    int check(int s) {
        if (!in(s, 0, 3)) return -2;
        if (how != 0) return -4;
        if (sheets[s] == null) return found(1);
        long before = 0;
        int at = p;
        for (int i = 0; i < sheets[s].length; i++) {
            long next = sheets[s][i];
            if (Math.abs(next - before) > a || !lawful(at, next)) return i;
            at += (int) next;
            before = next;
        }
        return sheets[s].length + (Math.abs(before) <= a ? 1000 : 0);
    }

    long digest() {
        long h = 17;
        for (int what = 0; what <= 11; what++) h = 31 * h + state(what);
        for (int lay : lays) h = 31 * h + lay;
        for (int s : ride) h = 31 * h + s;
        return h;
    }
}
