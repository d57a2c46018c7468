/** Promises 36 to 39: acts, their trace, kinds, counts. */
public final class ActsTest {
    private static final Due due = new Due();

    public static void main(String[] args) {
        acts();
        noActs();
        taken();
        count();
        due.end();
    }

    /** An ACT of one of the KIND with v 7, whose number is i. */
    private static void act(int kind, int i, int act, int x, int want, int... bodies) {
        BearMouse m = new BearMouse();
        for (int k = 0; k < i; k++) {
            m.walker(0, 1, 1);
        }
        m.walker(kind, 7, 20);
        String call = "KIND " + kind + ", act " + act;
        due.is(call, m.act(i, act, x), want);
        due.is(call + ": bodies", m.count(6), bodies.length);
        for (int k = 0; k < bodies.length; k++) {
            due.is(call + ": trace(" + k + ")", m.trace(k), bodies[k]);
        }
        due.is(call + ": behind THE TRACE", m.trace(bodies.length), -1);
        due.is(call + ": trace(-1)", m.trace(-1), -1);
    }

    private static void acts() {
        act(0, 2, 0, 50, 52, 10);
        act(0, 2, 1, 50, 45, 11, 10);
        act(0, 2, 2, 50, 90, 12, 11, 10);
        act(1, 1, 0, 50, 51, 10);
        act(1, 1, 1, 50, 42, 20, 11, 10);
        act(1, 1, 2, 50, 84, 12, 20, 11, 10);
        act(2, 3, 0, 50, 153, 30, 10);
        act(2, 3, 1, 50, 146, 11, 30, 10);
        act(2, 3, 2, 50, 292, 12, 11, 30, 10);
        act(3, 4, 0, 50, 54, 10);
        act(3, 4, 1, 50, 47, 11, 10);
        act(3, 4, 2, 50, 92, 40, 12, 11, 10, 11, 10);
        act(4, 0, 0, 50, -50, 50, 10);
        act(4, 0, 1, 50, -64, 51, 20, 11, 50, 10);
        act(4, 0, 2, 50, -128, 12, 51, 20, 11, 50, 10);
        act(5, 1, 0, 50, 151, 30, 10);
        act(5, 1, 1, 50, 144, 11, 30, 10);
        act(5, 1, 2, 50, 282, 60, 12, 11, 30, 10);
        act(6, 2, 0, 50, 51, 71, 10);
        act(6, 2, 1, 50, 48, 70, 11, 71, 10, 10);
        act(6, 2, 2, 50, 97, 40, 12, 70, 11, 71, 10, 10, 70, 11, 71, 10, 10);
        act(0, 1, 0, Integer.MAX_VALUE, Integer.MIN_VALUE, 10);
        act(2, 0, 0, 1431655765, -1, 30, 10);
        act(4, 0, 0, Integer.MIN_VALUE, Integer.MIN_VALUE, 50, 10);
    }

    private static void noActs() {
        BearMouse x = new BearMouse();
        due.is("act: nobody", x.act(0, 0, 5), 0);
        x.walker(6, 1, 1);
        x.act(0, 2, 5);
        due.is("twelve bodies", x.count(6), 12);
        due.is("act: no such WALKER", x.act(1, 0, 5), 0);
        due.is("no TRACE then", x.trace(0), -1);
        due.is("no bodies then", x.count(6), 0);
        x.act(0, 2, 5);
        due.is("act: act 3", x.act(0, 3, 5), 0);
        due.is("no TRACE then either", x.trace(0), -1);
        x.act(0, 2, 5);
        due.is("act: act -1", x.act(0, -1, 5), 0);
        due.is("no bodies then either", x.count(6), 0);
        x.act(0, 2, 5);
        due.is("act: walker -1", x.act(-1, 0, 5), 0);
        due.is("no bodies then again", x.count(6), 0);
        x.act(0, 2, 5);
        x.act(0, 0, 5);
        due.is("the latest alone", x.count(6), 2);
        due.is("the latest's second", x.trace(1), 10);
        due.is("no third", x.trace(2), -1);
        due.is("trace: far", x.trace(Integer.MAX_VALUE), -1);
        due.is("trace: far below", x.trace(Integer.MIN_VALUE), -1);
    }

    private static void taken() {
        int[] under = {0x7F, 0x12, 0x24, 0x48, 0x10, 0x20, 0x40};
        for (int kind = 0; kind < 7; kind++) {
            BearMouse x = new BearMouse();
            x.walker(kind, 0, 0);
            for (int k = 0; k < 7; k++) {
                boolean is = (under[k] >> kind & 1) == 1;
                due.is("taken: KIND " + kind + " for " + k, x.taken(0, k), is ? kind : -12);
            }
            due.is("taken for 7", x.taken(0, 7), -2);
            due.is("taken for -1", x.taken(0, -1), -2);
            due.is("taken: BAD ahead of NOTHING", x.taken(1, 7), -2);
            due.is("taken: no such", x.taken(1, 0), -11);
            due.is("taken: walker -1", x.taken(-1, 0), -11);
        }
    }

    private static void count() {
        BearMouse x = new BearMouse();
        x.walker(1, 1, 1);
        Due.brew(x, "milk 1");
        Due.brew(x, "milk 1");
        for (int i = 0; i < 3; i++) {
            x.see(0, true, 0);
        }
        for (int i = 0; i < 4; i++) {
            x.afternoon(0, 0);
        }
        for (int i = 0; i < 5; i++) {
            x.book(0, 0);
        }
        Due.feed(x, "milk 1");
        x.act(0, 1, 1);
        int[] want = {1, 2, 3, 4, 5, 6, 3};
        for (int what = 0; what < 7; what++) {
            due.is("count(" + what + ")", x.count(what), want[what]);
        }
        due.is("count(7)", x.count(7), -2);
        due.is("count(-1)", x.count(-1), -2);
    }
}
