import java.util.Arrays;

/** Every number of every call: the last that is allowed and the first that is not, on both sides (promises 2 to 36). */
public final class BoundsTest {
    public static void main(String[] args) {
        Setting resting = new Setting(Setting.RESTS, false);
        for (Call call : Call.all(resting)) {
            for (int[] numbers : call.allowed()) {
                allowed(resting, call, numbers);
            }
            for (int[] numbers : call.refused()) {
                Due.is(told(call, numbers), call.on(ready(resting), numbers), call.bad());
            }
        }
        amongAllowed(resting);
        Due.end();
    }

    private static String told(Call call, int[] numbers) {
        return call.name() + " " + Arrays.toString(numbers);
    }

    /** With all LINKS closed, so that a RIDE may begin. */
    private static ShaftWinder ready(Setting setting) {
        ShaftWinder x = setting.make();
        x.link(3, true);
        return x;
    }

    /** A FINDING is not BAD; of get() only state() 12 tells it. */
    private static void allowed(Setting setting, Call call, int[] numbers) {
        ShaftWinder x = ready(setting);
        long answer = call.on(x, numbers);
        boolean found = x.state(12) != Setting.FINDING;
        if (!found) {
            Due.isNot(told(call, numbers), answer, call.bad(), ShaftWinder.FULL, ShaftWinder.NOT);
        }
    }

    /** What is BAD though each number is within its bounds. */
    private static void amongAllowed(Setting setting) {
        Due.is("most: neither down nor up", ready(setting).most(3, 0), -2);
        Due.is("zone: from above to", ready(setting).zone(4, 3, 2), -2);
        Due.is("zone: from above to, at the ends", ready(setting).zone(Setting.DEEP, 0, 2), -2);
        Due.is("zone: from as to", ready(setting).zone(3, 3, 2), 2);
        Due.is("zone: a place at the end", ready(setting).zone(Setting.DEEP, Setting.DEEP, 20), 2);
        Due.is("zone: the whole shaft", ready(setting).zone(0, Setting.DEEP, 1), 2);
    }
}
