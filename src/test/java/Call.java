import java.util.ArrayList;
import java.util.List;

/**
 * A call of the document's face: its numbers as they are usual in a Setting, the bounds that the document tells for
 * each of them, and its answer where one is BAD. A number without bounds is never BAD.
 */
record Call(String name, Face face, int bad, int[] usual, int[][] bounds) {
    private static final int LEAST = Integer.MIN_VALUE, GREATEST = Integer.MAX_VALUE;
    private static final int[] ANY = {LEAST, GREATEST};
    private static final int[] PLACE = {0, Setting.DEEP}, SHEET = {0, 3}, FORM = {0, 2}, PART = {0, 2}, LAYS = {1, 60};
    private static final int[] MEN = {1, 500}, AT_A_TIME = {1, 50}, BOARDING = {0, 100};

    /** How the call is made. */
    interface Face {
        long on(ShaftWinder x, int[] n);
    }

    long on(ShaftWinder x, int[] n) {
        return face.on(x, n);
    }

    static List<Call> all(Setting setting) {
        List<Call> calls = new ArrayList<>();
        addShaft(calls);
        addRiding(calls, setting);
        addPulls(calls);
        addBook(calls);
        addShifts(calls);
        addLog(calls, setting);
        addSheets(calls);
        return calls;
    }

    /** The usual numbers with each bound of each of them in turn. */
    List<int[]> allowed() {
        List<int[]> rows = new ArrayList<>();
        for (int at = 0; at < bounds.length; at++) {
            rows.add(with(at, bounds[at][0]));
            rows.add(with(at, bounds[at][1]));
        }
        return rows;
    }

    /** The usual numbers with what is just outside, and far outside, of each bound of each of them in turn. */
    List<int[]> refused() {
        List<int[]> rows = new ArrayList<>();
        for (int at = 0; at < bounds.length; at++) {
            if (bounds[at][0] != LEAST) {
                rows.add(with(at, bounds[at][0] - 1));
                rows.add(with(at, LEAST));
            }
            if (bounds[at][1] != GREATEST) {
                rows.add(with(at, bounds[at][1] + 1));
                rows.add(with(at, GREATEST));
            }
        }
        return rows;
    }

    private int[] with(int at, int number) {
        int[] row = usual.clone();
        row[at] = number;
        return row;
    }

    private static int[] row(int... numbers) {
        return numbers;
    }

    private static void add(List<Call> calls, String name, int[] usual, Face face, int[]... bounds) {
        calls.add(new Call(name, face, -2, usual, bounds));
    }

    private static void addAside(List<Call> calls, String name, int bad, int[] usual, Face face, int[]... bounds) {
        calls.add(new Call(name, face, bad, usual, bounds));
    }

    private static void addShaft(List<Call> calls) {
        add(calls, "shaft", row(20, 3, 2), (x, n) -> x.shaft(n[0], n[1], n[2]), row(10, 400), row(1, 20), row(1, 5));
        add(calls, "zone from", row(3, Setting.DEEP, 2), (x, n) -> x.zone(n[0], n[1], n[2]), PLACE, row(3, Setting.DEEP), row(1, 20));
        add(calls, "zone to", row(0, 3, 2), (x, n) -> x.zone(n[0], n[1], n[2]), row(0, 3), PLACE, row(1, 20));
        add(calls, "stop", row(3, 4), (x, n) -> x.stop(n[0], n[1]), PLACE, row(1, 9));
        add(calls, "most", row(3, 1), (x, n) -> x.most(n[0], n[1]), PLACE, row(-1, 1));
        add(calls, "ticks", row(3), (x, n) -> x.ticks(n[0]), PLACE);
        addAside(calls, "speed", -2000, row(3, 1), (x, n) -> x.speed(n[0], n[1]), PLACE, ANY);
    }

    private static void addRiding(List<Call> calls, Setting setting) {
        add(calls, "ring", row(3), (x, n) -> x.ring(n[0]), row(1, 9));
        add(calls, "link to open", row(3), (x, n) -> x.link(n[0], false), row(0, 7));
        add(calls, "link to close", row(3), (x, n) -> x.link(n[0], true), row(0, 7));
        add(calls, "error", row(1, 3), (x, n) -> x.error(n[0], n[1]), row(0, 2), row(-1000, 1000));
        add(calls, "guard", row(9, 7), (x, n) -> x.guard(n[0], n[1]), row(0, 20), row(1, 10));
        add(calls, "begin", row(0), (x, n) -> x.begin(n[0]), row(0, setting.stops() - 1));
        add(calls, "pass", row(3), (x, n) -> x.pass(n[0]), row(1, 400));
        addAside(calls, "state", -2000, row(3), (x, n) -> x.state(n[0]), row(0, 12));
    }

    private static void addPulls(List<Call> calls) {
        add(calls, "loads", row(9, 9, 9), (x, n) -> x.loads(n[0], n[1], n[2]), row(0, 1000), row(0, 1000), row(0, 10));
        add(calls, "ratio", row(300), (x, n) -> x.ratio(n[0]), row(100, 400));
        add(calls, "slips", row(3, 1), (x, n) -> x.slips(n[0], n[1]), PLACE, row(-9, 9));
        add(calls, "slipAt", row(3), (x, n) -> x.slipAt(n[0]), PLACE);
        add(calls, "hold", row(3), (x, n) -> x.hold(n[0]), PLACE);
    }

    private static void addBook(List<Call> calls) {
        add(calls, "broken", row(3, 4), (x, n) -> x.broken(n[0], n[1]), row(0, 59), row(1, 99));
        add(calls, "worst", row(3), (x, n) -> x.worst(n[0]), LAYS);
        add(calls, "worstAt", row(3), (x, n) -> x.worstAt(n[0]), LAYS);
        add(calls, "cut", row(3), (x, n) -> x.cut(n[0]), LAYS);
        add(calls, "mend", row(3, 4), (x, n) -> x.mend(n[0], n[1]), LAYS, row(0, GREATEST));
    }

    private static void addShifts(List<Call> calls) {
        add(calls, "shift", row(3, 9, 4, 2), (x, n) -> x.shift(n[0], n[1], n[2], n[3]), PLACE, MEN, AT_A_TIME, BOARDING);
        add(calls, "both", row(9, 4, 2), (x, n) -> x.both(n[0], n[1], n[2]), MEN, AT_A_TIME, BOARDING);
    }

    private static void addLog(List<Call> calls, Setting setting) {
        int[] ticks = row(0, setting.make().state(6) - 1);
        addAside(calls, "log", -2000, row(0, 0), (x, n) -> x.log(n[0], n[1]), ticks, PART);
    }

    private static void addSheets(List<Call> calls) {
        add(calls, "sheet", row(3, 1, 5), (x, n) -> x.sheet(n[0], n[1], n[2]), SHEET, FORM, row(LEAST, 60));
        add(calls, "lose", row(0), (x, n) -> x.lose(n[0]), SHEET);
        add(calls, "put", row(0, 0, 1, 9), (x, n) -> x.put(n[0], n[1], n[2], n[3]), SHEET, FORM, ANY, ANY);
        addAside(calls, "get", LEAST, row(0, 0, 1), (x, n) -> x.get(n[0], n[1], n[2]), SHEET, FORM, ANY);
        add(calls, "copy", row(0, 0, 0, 1, 2), (x, n) -> x.copy(n[0], n[1], n[2], n[3], n[4]), SHEET, ANY, SHEET, ANY, ANY);
        add(calls, "read", row(0), (x, n) -> x.read(n[0]), SHEET);
        add(calls, "write", row(0, 1), (x, n) -> x.write(n[0], n[1]), SHEET, PART);
        add(calls, "plan", row(0, 3), (x, n) -> x.plan(n[0], n[1]), SHEET, PLACE);
        add(calls, "check", row(0), (x, n) -> x.check(n[0]), SHEET);
    }
}
