/**
 * All that calls can tell of an object of Setting, but for state() 12, as text: a line an answer. Asking uses the
 * object up, as much of it can only be seen by what it does next.
 */
final class Whole {
    private final ShaftWinder x;
    private final StringBuilder lines = new StringBuilder();

    private Whole(ShaftWinder x) {
        this.x = x;
    }

    static String of(ShaftWinder x) {
        Whole whole = new Whole(x);
        whole.states();
        whole.laws();
        whole.pulls();
        whole.sheets();
        whole.book();
        whole.links();
        whole.senders();
        whole.rides();
        whole.guard();
        return whole.lines.toString();
    }

    private void tell(String name, long answer) {
        lines.append(name).append(" tells ").append(answer).append('\n');
    }

    private void states() {
        for (int what = 0; what <= 11; what++) {
            tell("state " + what, x.state(what));
        }
        tell("digest", x.digest());
        for (int i = 0; i <= 14; i++) {
            for (int what = 0; what <= 2; what++) {
                tell("log " + i + " " + what, x.log(i, what));
            }
        }
    }

    private void laws() {
        for (int p = 0; p <= Setting.DEEP + 1; p++) {
            tell("most down from " + p, x.most(p, 1));
            tell("most up from " + p, x.most(p, -1));
        }
    }

    private void pulls() {
        for (int c = -9; c <= 9; c++) {
            tell("slips at 0 with " + c, x.slips(0, c));
            tell("slips at the end with " + c, x.slips(Setting.DEEP, c));
        }
        tell("ratio", x.ratio(400));
    }

    private void sheets() {
        for (int s = 0; s < 4; s++) {
            for (int form = 0; form < 3; form++) {
                int item = x.get(s, form, 0);
                // Of an empty row only the finding tells its form.
                tell("item 0 of sheet " + s + " as " + form, item == Integer.MIN_VALUE ? -x.state(12) : item);
            }
        }
        for (int i = 0; i < 5; i++) {
            tell("byte " + i, x.get(0, 0, i));
        }
        for (int i = 0; i < 61; i++) {
            tell("int " + i, x.get(1, 2, i));
        }
        for (int s = 0; s < 4; s++) {
            tell("items of sheet " + s, x.lose(s));
        }
    }

    private void book() {
        for (int lay = 0; lay < 3; lay++) {
            tell("lay " + lay, x.cut(1));
        }
        tell("worst lay", x.worstAt(1));
        tell("other lays", x.cut(60));
    }

    private void links() {
        for (int l = 0; l < 8; l++) {
            x.link(l, true);
            tell("open without " + l, x.state(4));
        }
    }

    /** The errors, for a setting in which SENDER 1 tells the middle one. */
    private void senders() {
        x.error(1, -1000);
        tell("lesser error of senders 0 and 2", x.state(5));
        x.error(1, 1000);
        tell("greater error of senders 0 and 2", x.state(5));
        x.error(0, -1000);
        tell("error of sender 2", x.state(5));
        for (int sender = 0; sender < 3; sender++) {
            x.error(sender, 0);
        }
    }

    private void rides() {
        x.pass(400);
        tell("place at the ride's end", x.state(0));
        tell("rides ended", x.state(8));
        tell("first speed down", x.speed(Setting.DEEP, 1));
        tell("first speed up", x.speed(0, 1));
        for (int stop = 0; stop < 6; stop++) {
            x.ring(Setting.STOPS[stop][1]);
            tell("ride to stop " + stop, x.begin(stop));
            x.pass(400);
            tell("place of stop " + stop, x.state(0));
        }
    }

    /** With a sender that tells a zone of speed 1, each speed is one more than the one before, till it brakes. */
    private void guard() {
        x.shaft(400, 20, 1);
        x.zone(397, 397, 1);
        x.stop(200, 1);
        x.ring(1);
        x.begin(0);
        for (int tick = 0; tick < 14; tick++) {
            int error = 397 - x.state(0);
            x.error(0, error);
            x.error(1, error);
            tell("guarded tick " + tick, x.pass(1));
            tell("guarded speed " + tick, x.state(1));
        }
    }
}
