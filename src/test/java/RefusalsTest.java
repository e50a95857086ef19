import java.util.Arrays;

/**
 * "Refusals, the first that fits: BAD, FULL, NOT, FINDINGS. They change nothing (FINDINGS but state() 12)." Every
 * refusal is looked for at rest, on the way and while it brakes, with rows that are full and rows that are not.
 */
public final class RefusalsTest {
    private static final int LEAST = Integer.MIN_VALUE;
    private static final int BAD = -2, FULL = -3, NOT = -4;
    private static final int NULL = 1, INDEX = 2, CAST = 3, STORE = 4, SIZE = 5;

    private final Setting setting;
    private final String untouched;

    private RefusalsTest(Setting setting) {
        this.setting = setting;
        untouched = Whole.of(setting.make());
    }

    public static void main(String[] args) {
        for (Setting setting : Setting.ALL) {
            RefusalsTest test = new RefusalsTest(setting);
            test.asItIsCalled();
            test.bad();
            test.badAheadOfOthers();
            test.full();
            test.not();
            test.nulls();
            test.indices();
            test.casts();
            test.storesAndSizes();
            test.nullsAtRest();
        }
        wholeSeesChanges();
        Due.end();
    }

    /** A call on a new object of the setting. */
    private interface One {
        long on(ShaftWinder x);
    }

    private void refused(String name, One call, long answer, int finding) {
        String told = setting + ": " + name;
        ShaftWinder x = setting.make();
        Due.is(told, call.on(x), answer);
        Due.is(told + ", state 12", x.state(12), finding);
        Due.same(told + " changed something", Whole.of(x), untouched);
    }

    private void refused(String name, One call, long answer) {
        refused(name, call, answer, Setting.FINDING);
    }

    private void finding(String name, One call, int number) {
        refused(name, call, -10 - number, number);
    }

    private boolean rests() {
        return setting.how() == Setting.RESTS;
    }

    private void asItIsCalled() {
        ShaftWinder x = setting.make();
        Due.is(setting + ": how", x.state(2), setting.how());
        Due.is(setting + ": zones", x.state(10), setting.zones());
        Due.is(setting + ": stops", x.state(11), setting.stops());
        Due.is(setting + ": finding", x.state(12), Setting.FINDING);
    }

    private void bad() {
        for (Call call : Call.all(setting)) {
            for (int[] numbers : call.refused()) {
                refused(call.name() + " " + Arrays.toString(numbers), x -> call.on(x, numbers), call.bad());
            }
        }
        refused("zone, from above to", x -> x.zone(5, 4, 1), BAD);
        refused("most, no way", x -> x.most(5, 0), BAD);
    }

    /** BAD where a later refusal would fit as well, beyond what the setting itself brings. */
    private void badAheadOfOthers() {
        refused("speed, no such place and no such tick", x -> x.speed(31, 0), -2000);
        refused("sheet, no such sheet and a size below 0", x -> x.sheet(4, 0, -1), BAD);
        refused("sheet, no such form and a size below 0", x -> x.sheet(0, 3, -1), BAD);
        refused("put, no such form of a sheet that is lost", x -> x.put(3, 3, 0, 1), BAD);
        refused("put, no such form and no such item", x -> x.put(0, -1, 4, 1), BAD);
        refused("put, no such sheet and no such item", x -> x.put(-1, 0, 60, 1), BAD);
        refused("get, no such form of a sheet that is lost", x -> x.get(3, 3, 0), LEAST);
        refused("get, no such form and no such item", x -> x.get(0, 3, 4), LEAST);
        refused("copy, from a sheet that is lost to none", x -> x.copy(3, 0, 4, 0, 1), BAD);
        refused("copy, from none to a sheet that is lost", x -> x.copy(-1, 0, 3, 0, 1), BAD);
        refused("copy, from none, no such items", x -> x.copy(4, -1, 0, -1, -1), BAD);
        refused("write, no such part to a sheet that is lost", x -> x.write(3, 3), BAD);
        refused("plan, no such place, to a sheet that is lost", x -> x.plan(3, 31), BAD);
        refused("plan, no such place, to a sheet that is lost", x -> x.plan(3, -1), BAD);
    }

    private void full() {
        if (setting.full()) {
            refused("zone, the seventh", x -> x.zone(3, 4, 1), FULL);
            refused("stop, the seventh", x -> x.stop(3, 4), FULL);
        }
    }

    private void not() {
        if (rests()) {
            refused("begin, a link is open", x -> x.begin(0), NOT);
            return;
        }
        refused("shaft, not at rest", x -> x.shaft(50, 5, 5), NOT);
        if (!setting.full()) {
            refused("zone, not at rest", x -> x.zone(3, 4, 1), NOT);
        }
        refused("ticks, not at rest", x -> x.ticks(0), NOT);
        refused("speed, not at rest", x -> x.speed(30, 1), -3000);
        refused("speed, not at rest, no such tick", x -> x.speed(30, 0), -3000);
        refused("begin, not at rest", x -> x.begin(1), NOT);
        refused("slipAt, not at rest", x -> x.slipAt(30), NOT);
        refused("hold, not at rest", x -> x.hold(0), NOT);
        refused("plan, not at rest", x -> x.plan(1, 30), NOT);
        refused("plan, not at rest, to a sheet that is lost", x -> x.plan(3, 30), NOT);
        refused("check, not at rest", x -> x.check(1), NOT);
        refused("check, not at rest, of a sheet that is lost", x -> x.check(3), NOT);
    }

    private void nulls() {
        finding("lose", x -> x.lose(3), NULL);
        finding("put", x -> x.put(3, 0, 0, 1), NULL);
        finding("put, no such item", x -> x.put(3, 2, -1, 1), NULL);
        refused("get", x -> x.get(3, 0, 0), LEAST, NULL);
        refused("get, no such item", x -> x.get(3, 2, 60), LEAST, NULL);
        finding("copy from", x -> x.copy(3, 0, 0, 0, 1), NULL);
        finding("copy to", x -> x.copy(0, 0, 3, 0, 1), NULL);
        finding("copy to itself", x -> x.copy(3, 0, 3, 0, 0), NULL);
        finding("copy from, no such item", x -> x.copy(3, -1, 1, 60, -1), NULL);
        finding("copy to, no such item", x -> x.copy(1, 61, 3, 0, 1), NULL);
        finding("read", x -> x.read(3), NULL);
        finding("write", x -> x.write(3, 0), NULL);
    }

    private void nullsAtRest() {
        if (rests()) {
            finding("plan", x -> x.plan(3, 30), NULL);
            finding("plan without ticks", x -> x.plan(3, x.state(0)), NULL);
            finding("check", x -> x.check(3), NULL);
        }
    }

    private void indices() {
        int[] none = {-1, 4, LEAST, Integer.MAX_VALUE};
        for (int i : none) {
            finding("put " + i, x -> x.put(0, 0, i, 9), INDEX);
            refused("get " + i, x -> x.get(0, 0, i), LEAST, INDEX);
        }
        finding("put behind a full row", x -> x.put(1, 2, 60, 9), INDEX);
        refused("get behind a full row", x -> x.get(1, 2, 60), LEAST, INDEX);
        finding("put to an empty row", x -> x.put(2, 1, 0, 9), INDEX);
        refused("get of an empty row", x -> x.get(2, 1, 0), LEAST, INDEX);
        int[][] copies = {{-1, 0, 1}, {0, -1, 1}, {0, 0, -1}, {0, 0, 5}, {1, 0, 4}, {0, 1, 4}, {4, 0, 1}, {0, 4, 1}, {5, 0, 0},
            {0, 5, 0}, {-1, 0, 0}, {0, -1, 0}, {LEAST, 0, 1}, {0, LEAST, 1}, {0, 0, LEAST}, {0, 0, Integer.MAX_VALUE},
            {Integer.MAX_VALUE, 0, 1}, {0, Integer.MAX_VALUE, 1}, {3, 0, Integer.MAX_VALUE}, {5, 0, -1}, {0, 5, -1}};
        for (int[] c : copies) {
            finding("copy " + Arrays.toString(c), x -> x.copy(0, c[0], 0, c[1], c[2]), INDEX);
        }
        finding("copy of an empty row", x -> x.copy(2, 0, 2, 0, 1), INDEX);
        finding("copy behind a full row", x -> x.copy(1, 0, 1, 1, 60), INDEX);
        finding("copy beyond a full row", x -> x.copy(1, 1, 1, 0, 60), INDEX);
    }

    private void casts() {
        finding("put a short to bytes", x -> x.put(0, 1, 0, 9), CAST);
        finding("put an int to bytes", x -> x.put(0, 2, 0, 9), CAST);
        finding("put a byte to ints", x -> x.put(1, 0, 0, 9), CAST);
        finding("put a byte to ints, no such item", x -> x.put(1, 0, 60, 9), CAST);
        finding("put an int to an empty row of shorts", x -> x.put(2, 2, 0, 9), CAST);
        refused("get a short of bytes", x -> x.get(0, 1, 0), LEAST, CAST);
        refused("get a short of ints, no such item", x -> x.get(1, 1, -1), LEAST, CAST);
        refused("get a byte of an empty row of shorts", x -> x.get(2, 0, 0), LEAST, CAST);
    }

    private void storesAndSizes() {
        One store = x -> {
            x.lose(3);
            return x.copy(0, 0, 1, 0, 1);
        };
        finding("copy bytes to ints", store, STORE);
        finding("copy ints to bytes, none of them", x -> x.copy(1, 0, 0, 0, 0), STORE);
        finding("copy bytes to shorts, no such item", x -> x.copy(0, -1, 2, 5, -1), STORE);
        finding("copy shorts to ints, not so many", x -> x.copy(2, 0, 1, 0, 61), STORE);
        finding("sheet, a size below 0", x -> x.sheet(0, 0, -1), SIZE);
        finding("sheet, the least size", x -> x.sheet(1, 1, LEAST), SIZE);
        finding("sheet, a size below 0 for one that is lost", x -> x.sheet(3, 2, -1), SIZE);
    }

    /** That the look at the whole object does see what a refused call could wrongly change. */
    private static void wholeSeesChanges() {
        Setting resting = new Setting(Setting.RESTS, false);
        String before = Whole.of(resting.make());
        One[] changes = {x -> x.shaft(30, 6, 2), x -> x.zone(3, 4, 1), x -> x.stop(3, 4), x -> x.ring(4), x -> x.link(3, true),
            x -> x.link(4, false), x -> x.error(0, 6), x -> x.error(1, 3), x -> x.error(2, -4), x -> x.guard(3, 2),
            x -> x.guard(1, 2), x -> x.guard(2, 3), x -> x.pass(1), x -> x.loads(301, 200, 0), x -> x.loads(300, 100, 2),
            x -> x.ratio(151), x -> x.broken(7, 1), x -> x.cut(60), x -> x.sheet(0, 0, 3), x -> x.sheet(3, 0, 0),
            x -> x.sheet(2, 2, 0), x -> x.lose(2), x -> x.put(0, 0, 3, 9), x -> x.put(1, 2, 58, 9),
            x -> x.copy(0, 0, 0, 1, 1), x -> x.read(0), x -> x.write(1, 0), x -> x.plan(0, 0)};
        for (int n = 0; n < changes.length; n++) {
            ShaftWinder x = resting.make();
            changes[n].on(x);
            Due.is("change " + n + " is seen", Whole.of(x).equals(before) ? 0 : 1, 1);
        }
    }
}
