/**
 * An object in which nothing that a refused call could change is as it was at first. It is 30 deep, with top 6 and
 * change 2; SHEETS: 0 is of bytes, 1 a full row of ints, 2 an empty row of shorts, 3 is LOST. state() 12 is STORE.
 */
record Setting(int how, boolean full) {
    static final int RESTS = 0, RIDES = 1, BRAKES = 2;
    static final int DEEP = 30, FINDING = 4;

    static final Setting[] ALL = {
        new Setting(RESTS, false), new Setting(RIDES, false), new Setting(BRAKES, false),
        new Setting(RESTS, true), new Setting(RIDES, true), new Setting(BRAKES, true)
    };

    /** STOPS by number: place, CODE. */
    static final int[][] STOPS = {{26, 5}, {4, 5}, {0, 1}, {30, 9}, {15, 2}, {16, 2}};

    /** ZONES by number: from, to, speed. */
    static final int[][] ZONES = {{10, 12, 3}, {0, 1, 1}, {29, 30, 2}, {14, 14, 5}, {21, 22, 4}, {5, 6, 20}};

    int stops() {
        return full ? 6 : 2;
    }

    int zones() {
        return full ? 6 : 1;
    }

    ShaftWinder make() {
        ShaftWinder x = new ShaftWinder();
        x.shaft(DEEP, 6, 2);
        for (int n = 0; n < zones(); n++) {
            x.zone(ZONES[n][0], ZONES[n][1], ZONES[n][2]);
        }
        for (int n = 0; n < stops(); n++) {
            x.stop(STOPS[n][0], STOPS[n][1]);
        }
        x.loads(300, 200, 2);
        x.ratio(150);
        x.broken(0, 7);
        x.broken(1, 99);
        x.broken(59, 5);
        sheets(x);
        move(x);
        x.ring(5);
        x.error(0, 5);
        x.error(1, 2);
        x.error(2, -3);
        x.guard(2, 2);
        return x;
    }

    private static void sheets(ShaftWinder x) {
        x.sheet(0, 0, 4);
        x.sheet(1, 2, 60);
        x.sheet(2, 1, 0);
        for (int i = 0; i < 4; i++) {
            x.put(0, 0, i, i + 1);
        }
        x.put(1, 2, 0, 70);
        x.put(1, 2, 59, -70);
        x.copy(0, 0, 1, 0, 1);
    }

    private void move(ShaftWinder x) {
        x.ring(5);
        int ticks = x.begin(0);
        if (how == RESTS) {
            x.pass(ticks + 1);
            x.link(3, false);
            return;
        }
        x.pass(7);
        if (how == BRAKES) {
            x.guard(2, 1);
            x.link(3, false);
            x.pass(1);
        }
    }
}
