/** Objects as tests of rides begin with them. */
final class Made {
    private Made() { }

    /** On the way from 0 to its only STOP, at q, no TICK ridden yet. */
    static ShaftWinder riding(int d, int v, int a, int q) {
        ShaftWinder x = new ShaftWinder();
        x.shaft(d, v, a);
        x.stop(q, 1);
        x.ring(1);
        x.begin(0);
        return x;
    }

    /** At rest at p, where STOP 0 is if p is not 0. */
    static ShaftWinder at(int d, int v, int a, int p) {
        ShaftWinder x = new ShaftWinder();
        x.shaft(d, v, a);
        if (p > 0) {
            x = riding(d, v, a, p);
            x.pass(400);
        }
        return x;
    }
}
