import java.util.Arrays;

/** The winder of a shaft with two cages on one rope. DOC.md says its promises, by number. */
public final class ShaftWinder {
    public static final int NONE = -1, BAD = -2, FULL = -3, NOT = -4;

    // The answers of those calls in which the common ones could be mistaken for a speed or a place.
    private static final int NO_SUCH_TICK = -1000, BAD_ASIDE = -2000, NOT_ASIDE = -3000;
    private static final int LEAST_INT = -2147483648;

    private static final int RESTS = 0, RIDES = 1, BRAKES = 2;
    private static final int NULL = 1, INDEX = 2, CAST = 3, STORE = 4, SIZE = 5;

    private static final int LEAST_DEEP = 10, MOST_DEEP = 400, MOST_SPEED = 20, MOST_CHANGE = 5;
    private static final int ZONES = 6, STOPS = 6, MOST_CODE = 9, LINKS = 8, SENDERS = 3;
    private static final int MOST_ERROR = 1000, MOST_MARGIN = 20, MOST_BRAKE = 10, MOST_PASS = 400;
    private static final int MOST_LOAD = 1000, MOST_WEIGHT = 10, LEAST_RATIO = 100, MOST_RATIO = 400;
    private static final int MOST_SLIP_CHANGE = 9;
    private static final int LAYS = 60, MOST_WIRES = 99;
    private static final int MOST_MEN = 500, MOST_AT_A_TIME = 50, MOST_BOARDING = 100;
    private static final int LOGGED = 40, LOG_PARTS = 3, SHEETS = 4, FORMS = 3, ITEMS = 60;
    private static final int STATES_DIGESTED = 12, MAY_STAND = 1000;

    private final Shaft shaft;
    private final RideFinder finder;
    private final Winding winding;
    private final Rope rope;
    private final Book book;
    private final Sheet[] sheets;
    private final int[] stopPlaces, stopCodes;
    private int stops;
    private int latestFinding;

    // Apart from the speeds that are being ridden, so that asking for another ride can't disturb them.
    private final int[] asked;

    public ShaftWinder() {
        shaft = new Shaft();
        finder = new RideFinder(shaft);
        winding = new Winding(shaft);
        rope = new Rope(shaft);
        book = new Book();
        sheets = new Sheet[SHEETS];
        for (int s = 0; s < SHEETS; s++) {
            sheets[s] = new Sheet();
        }
        stopPlaces = new int[STOPS];
        stopCodes = new int[STOPS];
        asked = new int[MOST_DEEP];
    }

    // ---- the shaft

    public int shaft(int d, int v, int a) {
        if (!within(d, LEAST_DEEP, MOST_DEEP) || !within(v, 1, MOST_SPEED) || !within(a, 1, MOST_CHANGE)) {
            return BAD;
        }
        if (!winding.rests()) {
            return NOT;
        }
        shaft.renew(d, v, a);
        finder.forget();
        stops = 0;
        winding.place = 0;
        return 1;
    }

    public int zone(int from, int to, int w) {
        if (!shaft.has(from) || !shaft.has(to) || from > to || !within(w, 1, MOST_SPEED)) {
            return BAD;
        }
        if (shaft.zones >= ZONES) {
            return FULL;
        }
        if (!winding.rests()) {
            return NOT;
        }
        shaft.addZone(from, to, w);
        finder.forget();
        return shaft.zones;
    }

    public int stop(int place, int code) {
        if (!shaft.has(place) || !within(code, 1, MOST_CODE)) {
            return BAD;
        }
        if (stops >= STOPS) {
            return FULL;
        }
        stopPlaces[stops] = place;
        stopCodes[stops] = code;
        stops++;
        return stops - 1;
    }

    public int most(int p, int s) {
        if (!shaft.has(p) || (s != 1 && s != -1)) {
            return BAD;
        }
        return shaft.greatestSpeed(p, s);
    }

    public int ticks(int q) {
        if (!shaft.has(q)) {
            return BAD;
        }
        if (!winding.rests()) {
            return NOT;
        }
        return finder.ticksBetween(winding.place, q);
    }

    public int speed(int q, int t) {
        if (!shaft.has(q)) {
            return BAD_ASIDE;
        }
        if (!winding.rests()) {
            return NOT_ASIDE;
        }
        int length = finder.trace(winding.place, q, asked);
        return within(t, 1, length) ? asked[t - 1] : NO_SUCH_TICK;
    }

    // ---- riding

    public int ring(int n) {
        if (!within(n, 1, MOST_CODE)) {
            return BAD;
        }
        winding.bell = n;
        return 1;
    }

    public int link(int l, boolean closed) {
        if (!within(l, 0, LINKS - 1)) {
            return BAD;
        }
        winding.linkOpen[l] = !closed;
        return 1;
    }

    public int error(int sender, int e) {
        if (!within(sender, 0, SENDERS - 1) || !within(e, -MOST_ERROR, MOST_ERROR)) {
            return BAD;
        }
        winding.errors[sender] = e;
        return 1;
    }

    public int guard(int margin, int brake) {
        if (!within(margin, 0, MOST_MARGIN) || !within(brake, 1, MOST_BRAKE)) {
            return BAD;
        }
        winding.margin = margin;
        winding.brake = brake;
        return 1;
    }

    public int begin(int stop) {
        if (!within(stop, 0, stops - 1)) {
            return BAD;
        }
        if (!winding.rests() || winding.openLinks() > 0 || winding.bell != stopCodes[stop]) {
            return NOT;
        }
        int length = finder.trace(winding.place, stopPlaces[stop], winding.ride);
        winding.setOut(length);
        return length;
    }

    public int pass(int n) {
        if (!within(n, 1, MOST_PASS)) {
            return BAD;
        }
        for (int i = 0; i < n; i++) {
            winding.passTick();
        }
        return winding.how;
    }

    public int state(int what) {
        switch (what) {
            case 0: return winding.place;
            case 1: return winding.speed;
            case 2: return winding.how;
            case 3: return winding.bell;
            case 4: return winding.openLinks();
            case 5: return winding.told();
            case 6: return winding.past.noted;
            case 7: return winding.ticksLeft();
            case 8: return winding.ended;
            case 9: return winding.braked;
            case 10: return shaft.zones;
            case 11: return stops;
            case 12: return latestFinding;
            default: return BAD_ASIDE;
        }
    }

    // ---- pulls

    public int loads(int load0, int load1, int weight) {
        if (!within(load0, 0, MOST_LOAD) || !within(load1, 0, MOST_LOAD) || !within(weight, 0, MOST_WEIGHT)) {
            return BAD;
        }
        rope.load0 = load0;
        rope.load1 = load1;
        rope.weight = weight;
        return 1;
    }

    public int ratio(int hundredths) {
        if (!within(hundredths, LEAST_RATIO, MOST_RATIO)) {
            return BAD;
        }
        int before = rope.kept;
        rope.kept = hundredths;
        return before;
    }

    public int slips(int p, int c) {
        if (!shaft.has(p) || !within(c, -MOST_SLIP_CHANGE, MOST_SLIP_CHANGE)) {
            return BAD;
        }
        return rope.slipsAt(p, c, rope.kept) ? 1 : 0;
    }

    public int slipAt(int q) {
        if (!shaft.has(q)) {
            return BAD;
        }
        if (!winding.rests()) {
            return NOT;
        }
        int length = finder.trace(winding.place, q, asked);
        return rope.firstSlip(winding.place, asked, length);
    }

    public int hold(int q) {
        if (!shaft.has(q)) {
            return BAD;
        }
        if (!winding.rests()) {
            return NOT;
        }
        int length = finder.trace(winding.place, q, asked);
        return rope.leastRatio(winding.place, asked, length);
    }

    // ---- the book

    public int broken(int lay, int n) {
        if (!within(lay, 0, LAYS - 1) || !within(n, 1, MOST_WIRES)) {
            return BAD;
        }
        return book.addBroken(lay, n);
    }

    public int worst(int w) {
        if (!within(w, 1, LAYS)) {
            return BAD;
        }
        return book.wiresIn(book.firstOfWorst(w), w);
    }

    public int worstAt(int w) {
        if (!within(w, 1, LAYS)) {
            return BAD;
        }
        return book.firstOfWorst(w);
    }

    public int cut(int k) {
        if (!within(k, 1, LAYS)) {
            return BAD;
        }
        return book.cutAway(k);
    }

    public int mend(int w, int m) {
        // No cut leaves less than none, so there is no such number of lays for an m below 0.
        if (!within(w, 1, LAYS) || m < 0) {
            return BAD;
        }
        return book.fewestToCut(w, m);
    }

    // ---- shifts

    public int shift(int q, int n, int c, int b) {
        if (!shaft.has(q) || !areMen(n, c, b)) {
            return BAD;
        }
        int trips = tripsFor(n, c);
        // A ride read backwards is a ride within the same laws, so the way back takes as many ticks.
        int oneWay = finder.ticksBetween(0, q);
        return trips * (b + oneWay + b) + (trips - 1) * oneWay;
    }

    public int both(int n, int c, int b) {
        if (!areMen(n, c, b)) {
            return BAD;
        }
        int oneWay = finder.ticksBetween(0, shaft.deep);
        return b + tripsFor(n, c) * (oneWay + b);
    }

    // ---- the log, sheets

    public int log(int i, int what) {
        if (!within(i, 0, winding.past.size() - 1) || !within(what, 0, LOG_PARTS - 1)) {
            return BAD_ASIDE;
        }
        return winding.past.latest(i, what);
    }

    public int sheet(int s, int form, int n) {
        if (!isSheet(s) || !isForm(form) || n > ITEMS) {
            return BAD;
        }
        if (n < 0) {
            return finding(SIZE);
        }
        sheets[s].renew(form, n);
        return n;
    }

    public int lose(int s) {
        if (!isSheet(s)) {
            return BAD;
        }
        Sheet row = sheets[s];
        if (row.lost) {
            return finding(NULL);
        }
        row.lost = true;
        return row.size;
    }

    public int put(int s, int form, int i, int v) {
        if (!isSheet(s) || !isForm(form)) {
            return BAD;
        }
        Sheet row = sheets[s];
        int wrong = wrongOfItem(row, form, i);
        if (wrong != 0) {
            return finding(wrong);
        }
        row.store(i, v);
        return 1;
    }

    public int get(int s, int form, int i) {
        if (!isSheet(s) || !isForm(form)) {
            return LEAST_INT;
        }
        Sheet row = sheets[s];
        int wrong = wrongOfItem(row, form, i);
        if (wrong != 0) {
            latestFinding = wrong;
            return LEAST_INT;
        }
        return row.items[i];
    }

    public int copy(int s, int i, int t, int j, int n) {
        if (!isSheet(s) || !isSheet(t)) {
            return BAD;
        }
        Sheet source = sheets[s];
        Sheet goal = sheets[t];
        if (source.lost || goal.lost) {
            return finding(NULL);
        }
        if (source.form != goal.form) {
            return finding(STORE);
        }
        if (!source.hasItems(i, n) || !goal.hasItems(j, n)) {
            return finding(INDEX);
        }
        System.arraycopy(source.items, i, goal.items, j, n);
        return 1;
    }

    public int read(int s) {
        if (!isSheet(s)) {
            return BAD;
        }
        Sheet row = sheets[s];
        if (row.lost) {
            return finding(NULL);
        }
        book.take(row.items, row.size);
        return row.size;
    }

    public int write(int s, int what) {
        if (!isSheet(s) || !within(what, 0, LOG_PARTS - 1)) {
            return BAD;
        }
        Sheet row = sheets[s];
        if (row.lost) {
            return finding(NULL);
        }
        int count = Math.min(winding.past.size(), row.size);
        for (int i = 0; i < count; i++) {
            row.store(i, winding.past.latest(count - 1 - i, what));
        }
        return count;
    }

    public int plan(int s, int q) {
        if (!isSheet(s) || !shaft.has(q)) {
            return BAD;
        }
        if (!winding.rests()) {
            return NOT;
        }
        Sheet row = sheets[s];
        if (row.lost) {
            return finding(NULL);
        }
        int count = Math.min(finder.trace(winding.place, q, asked), row.size);
        for (int i = 0; i < count; i++) {
            row.store(i, asked[i]);
        }
        return count;
    }

    public int check(int s) {
        if (!isSheet(s)) {
            return BAD;
        }
        if (!winding.rests()) {
            return NOT;
        }
        Sheet row = sheets[s];
        if (row.lost) {
            return finding(NULL);
        }
        int lawful = shaft.lawfulSpeeds(winding.place, row.items, row.size);
        int last = row.size == 0 ? 0 : row.items[row.size - 1];
        boolean stands = lawful == row.size && Math.abs(last) <= shaft.change;
        return stands ? lawful + MAY_STAND : lawful;
    }

    public long digest() {
        long h = 17;
        for (int what = 0; what < STATES_DIGESTED; what++) {
            h = 31 * h + state(what);
        }
        for (int lay = 0; lay < LAYS; lay++) {
            h = 31 * h + book.wires[lay];
        }
        int left = winding.ticksLeft();
        for (int i = 0; i < left; i++) {
            h = 31 * h + winding.ride[winding.ridden + i];
        }
        return h;
    }

    // ---- what the calls share

    private static boolean within(int n, int least, int greatest) {
        return n >= least && n <= greatest;
    }

    private static boolean isSheet(int s) {
        return within(s, 0, SHEETS - 1);
    }

    private static boolean isForm(int form) {
        return within(form, 0, FORMS - 1);
    }

    private static boolean areMen(int n, int c, int b) {
        return within(n, 1, MOST_MEN) && within(c, 1, MOST_AT_A_TIME) && within(b, 0, MOST_BOARDING);
    }

    private static int tripsFor(int men, int atATime) {
        return atATime < 1 ? 0 : (men + atATime - 1) / atATime;
    }

    private int finding(int number) {
        latestFinding = number;
        return -10 - number;
    }

    private static int wrongOfItem(Sheet row, int form, int i) {
        if (row.lost) {
            return NULL;
        }
        if (row.form != form) {
            return CAST;
        }
        return row.hasItems(i, 1) ? 0 : INDEX;
    }

    /** The shaft and its laws of speed. */
    private static final class Shaft {
        int deep, top, change, zones;

        // What zones and top leave of speed at each place. A zone holds for the mirrored places too,
        // for there the other cage is in it.
        final int[] limits;

        Shaft() {
            limits = new int[MOST_DEEP + 1];
            renew(100, 10, 2);
        }

        void renew(int d, int v, int a) {
            deep = d;
            top = v;
            change = a;
            zones = 0;
            Arrays.fill(limits, v);
        }

        boolean has(int place) {
            return place >= 0 && place <= deep;
        }

        void addZone(int from, int to, int w) {
            for (int place = Math.max(from, 0); place <= Math.min(to, deep); place++) {
                limits[place] = Math.min(limits[place], w);
                limits[deep - place] = Math.min(limits[deep - place], w);
            }
            zones++;
        }

        /** What may be ridden at a place, which may lie outside, where no zone is. */
        int limitAt(int place) {
            return has(place) ? limits[place] : top;
        }

        int greatestSpeed(int place, int way) {
            if (!has(place)) {
                return 0;
            }
            int limit = limits[place];
            for (int speed = 1; speed <= top; speed++) {
                int end = place + way * speed;
                if (!has(end)) {
                    return speed - 1;
                }
                limit = Math.min(limit, limits[end]);
                if (speed > limit) {
                    return speed - 1;
                }
            }
            return top;
        }

        boolean allowsTick(int place, int before, int speed) {
            // Looked at first, as an item of a sheet may be too great to be reckoned with.
            if (speed < -top || speed > top) {
                return false;
            }
            if (Math.abs(speed - before) > change) {
                return false;
            }
            return Math.abs(speed) <= greatestSpeed(place, speed < 0 ? -1 : 1);
        }

        /** How many of the speeds, from the first on, are within all laws from a place at rest. */
        int lawfulSpeeds(int from, int[] speeds, int count) {
            int place = from;
            int before = 0;
            for (int i = 0; i < count && i < speeds.length; i++) {
                if (!allowsTick(place, before, speeds[i])) {
                    return i;
                }
                before = speeds[i];
                place += before;
            }
            return count;
        }
    }

    /**
     * Finds the ride between two places.
     *
     * A ride of the fewest ticks never stands still, turns or goes beyond its end, whatever the zones
     * are. For a ride to a nearer end never needs more ticks: of the ride to the farther one, lower by
     * one the last speed that is not A below the speed ahead of it; the ticks behind it move by one
     * place, onto the way of a faster tick, where their speeds are allowed. So a ride's ticks the
     * wrong way, and those at speed 0, can be left out. That is why speeds from 1 on, toward the end,
     * are all that is looked at.
     */
    private static final class RideFinder {
        private static final int SPEEDS = MOST_SPEED + 1;
        private static final int NO_RIDE = 1000000;

        final Shaft shaft;

        // The fewest ticks that are left so far from the end, by the speed of the tick before.
        final int[] left;

        // For what the rows stand: rides to this end by this way, from so far at most.
        int end, way, farthest;

        RideFinder(Shaft shaft) {
            this.shaft = shaft;
            left = new int[(MOST_DEEP + 1) * SPEEDS];
            forget();
        }

        /** To be called when the laws have changed. */
        void forget() {
            end = -1;
        }

        int ticksBetween(int from, int to) {
            if (from == to || !shaft.has(from) || !shaft.has(to)) {
                return 0;
            }
            aimAt(to, from < to ? 1 : -1);
            int distance = Math.abs(to - from);
            while (farthest < distance) {
                farthest++;
                fillRow(farthest);
            }
            return left[distance * SPEEDS];
        }

        /** Writes the speeds of the ride into a row: how many there are. */
        int trace(int from, int to, int[] row) {
            int length = Math.min(ticksBetween(from, to), row.length);
            int distance = Math.abs(to - from);
            int speed = 0;
            for (int i = 0; i < length; i++) {
                speed = farthestOfBest(distance, speed);
                row[i] = way * speed;
                distance -= speed;
            }
            return length;
        }

        private void aimAt(int newEnd, int newWay) {
            if (end == newEnd && way == newWay) {
                return;
            }
            end = newEnd;
            way = newWay;
            farthest = 0;
            for (int before = 0; before <= shaft.top; before++) {
                left[before] = before <= shaft.change ? 0 : NO_RIDE;
            }
        }

        private void fillRow(int distance) {
            int greatest = greatestFrom(distance);
            for (int before = 0; before <= shaft.top; before++) {
                int fewest = NO_RIDE;
                int last = Math.min(before + shaft.change, greatest);
                for (int speed = Math.max(before - shaft.change, 1); speed <= last; speed++) {
                    fewest = Math.min(fewest, ticksAfter(distance, speed) + 1);
                }
                left[distance * SPEEDS + before] = fewest;
            }
        }

        private int farthestOfBest(int distance, int before) {
            int best = left[distance * SPEEDS + before] - 1;
            int slowest = Math.max(before - shaft.change, 1);
            for (int speed = Math.min(before + shaft.change, greatestFrom(distance)); speed > slowest; speed--) {
                if (ticksAfter(distance, speed) == best) {
                    return speed;
                }
            }
            return slowest;
        }

        private int greatestFrom(int distance) {
            return Math.min(shaft.greatestSpeed(end - way * distance, way), distance);
        }

        private int ticksAfter(int distance, int speed) {
            return left[(distance - speed) * SPEEDS + speed];
        }
    }

    /** Where the cages are and how they move; bell, links, senders and brake. */
    private static final class Winding {
        final Shaft shaft;
        final TickLog past;
        final boolean[] linkOpen;
        final int[] errors;
        final int[] ride;
        int length, ridden;
        int place, speed, how, bell;
        int margin, brake;
        int ended, braked;

        Winding(Shaft shaft) {
            this.shaft = shaft;
            past = new TickLog();
            linkOpen = new boolean[LINKS];
            errors = new int[SENDERS];
            ride = new int[MOST_DEEP];
            margin = 20;
            brake = 3;
        }

        boolean rests() {
            return how == RESTS;
        }

        int openLinks() {
            int open = 0;
            for (int l = 0; l < LINKS; l++) {
                if (linkOpen[l]) {
                    open++;
                }
            }
            return open;
        }

        int told() {
            int least = Math.min(errors[0], Math.min(errors[1], errors[2]));
            int greatest = Math.max(errors[0], Math.max(errors[1], errors[2]));
            return place + errors[0] + errors[1] + errors[2] - least - greatest;
        }

        int ticksLeft() {
            return how == RIDES ? length - ridden : 0;
        }

        void setOut(int ticks) {
            bell = 0;
            length = ticks;
            ridden = 0;
            how = ticks > 0 ? RIDES : RESTS;
        }

        void passTick() {
            if (how == RIDES && mustBrake()) {
                how = BRAKES;
                braked++;
            }
            if (how == RIDES) {
                rideOn();
            } else if (how == BRAKES) {
                slowDown();
            }
            past.note(place, speed, how);
        }

        private int nextSpeed() {
            return ridden < ride.length ? ride[ridden] : 0;
        }

        private boolean mustBrake() {
            return openLinks() > 0 || Math.abs(nextSpeed()) > shaft.limitAt(told()) + margin;
        }

        private void rideOn() {
            speed = nextSpeed();
            place += speed;
            ridden++;
            if (ridden >= length) {
                speed = 0;
                how = RESTS;
                ended++;
            }
        }

        private void slowDown() {
            speed = speed > 0 ? Math.max(speed - brake, 0) : Math.min(speed + brake, 0);
            place += speed;
            if (!shaft.has(place)) {
                place = place < 0 ? 0 : shaft.deep;
                speed = 0;
            }
            if (speed == 0) {
                how = RESTS;
            }
        }
    }

    /** What pulls at the rope on both sides of its wheel. */
    private static final class Rope {
        final Shaft shaft;
        int load0, load1, weight;
        int kept;

        Rope(Shaft shaft) {
            this.shaft = shaft;
            kept = MOST_RATIO;
        }

        boolean slipsAt(int place, int change, int hundredths) {
            int pull0 = (load0 + weight * place + 1) * (10 - change);
            int pull1 = (load1 + weight * (shaft.deep - place) + 1) * (10 + change);
            return 100 * Math.max(pull0, pull1) > hundredths * Math.min(pull0, pull1);
        }

        int firstSlip(int from, int[] speeds, int count) {
            int place = from;
            int before = 0;
            // One round more than there are ticks, for coming to stand; a ride without ticks never moved.
            for (int i = 0; i <= count && count > 0; i++) {
                int speed = i < count ? speeds[i] : 0;
                if (slipsAt(place, speed - before, kept)) {
                    return i + 1;
                }
                place += speed;
                before = speed;
            }
            return NONE;
        }

        int leastRatio(int from, int[] speeds, int count) {
            int least = LEAST_RATIO;
            int place = from;
            int before = 0;
            for (int i = 0; i <= count && count > 0; i++) {
                int speed = i < count ? speeds[i] : 0;
                while (least <= MOST_RATIO && slipsAt(place, speed - before, least)) {
                    least++;
                }
                place += speed;
                before = speed;
            }
            return least > MOST_RATIO ? NONE : least;
        }
    }

    /** The book of broken wires. */
    private static final class Book {
        final int[] wires;

        Book() {
            wires = new int[LAYS];
        }

        int addBroken(int lay, int n) {
            wires[lay] = Math.min(wires[lay] + n, MOST_WIRES);
            return wires[lay];
        }

        int wiresIn(int first, int count) {
            int sum = 0;
            for (int lay = Math.max(first, 0); lay < first + count && lay < LAYS; lay++) {
                sum += wires[lay];
            }
            return sum;
        }

        int firstOfWorst(int w) {
            int first = 0;
            int greatest = wiresIn(0, w);
            for (int lay = 1; lay + w <= LAYS; lay++) {
                int sum = wiresIn(lay, w);
                if (sum > greatest) {
                    greatest = sum;
                    first = lay;
                }
            }
            return first;
        }

        int cutAway(int k) {
            int gone = wiresIn(0, k);
            for (int lay = 0; lay < LAYS; lay++) {
                wires[lay] = lay + k < LAYS ? wires[lay + k] : 0;
            }
            return gone;
        }

        int fewestToCut(int w, int m) {
            // Lays that are new at the end have none, so the last stretch that has too many decides.
            for (int lay = LAYS - 1; lay >= 0; lay--) {
                if (wiresIn(lay, w) > m) {
                    return lay + 1;
                }
            }
            return 0;
        }

        void take(int[] told, int count) {
            for (int lay = 0; lay < count && lay < LAYS && lay < told.length; lay++) {
                wires[lay] = Math.max(0, Math.min(told[lay], MOST_WIRES));
            }
        }
    }

    /** The latest ticks, in a row that is written round and round. */
    private static final class TickLog {
        final int[] parts;
        int noted;

        TickLog() {
            parts = new int[LOGGED * LOG_PARTS];
        }

        int size() {
            return Math.min(noted, LOGGED);
        }

        void note(int place, int speed, int how) {
            int at = Math.floorMod(noted, LOGGED) * LOG_PARTS;
            parts[at] = place;
            parts[at + 1] = speed;
            parts[at + 2] = how;
            noted++;
        }

        int latest(int i, int what) {
            return parts[Math.floorMod(noted - 1 - i, LOGGED) * LOG_PARTS + what];
        }
    }

    /** A row of items of one form. */
    private static final class Sheet {
        final int[] items;
        boolean lost;
        int form, size;

        Sheet() {
            items = new int[ITEMS];
            lost = true;
        }

        void renew(int newForm, int newSize) {
            form = newForm;
            size = newSize;
            lost = false;
            Arrays.fill(items, 0);
        }

        boolean hasItems(int first, int count) {
            return first >= 0 && count >= 0 && first <= size - count;
        }

        void store(int i, int v) {
            switch (form) {
                case 0: items[i] = (byte) v; break;
                case 1: items[i] = (short) v; break;
                default: items[i] = v; break;
            }
        }
    }
}
