/** Promises 40 to 43: tapes, their items, shifting. */
public final class TapesTest {
    private static final Due due = new Due();

    public static void main(String[] args) {
        tape();
        item();
        read();
        shift();
        refusals();
        due.end();
    }

    private static void tape() {
        BearMouse x = new BearMouse();
        due.is("tape(6, 9, -1)", x.tape(6, 9, -1), -1);
        due.is("tape(-1, 0, 0)", x.tape(-1, 0, 0), -1);
        due.is("tape(-1, -1, 0)", x.tape(-1, -1, 0), -1);
        due.is("tape(0, 5, -1)", x.tape(0, 5, -1), -2);
        due.is("tape(0, -2, 0)", x.tape(0, -2, 0), -2);
        due.is("tape(0, 0, 61)", x.tape(0, 0, 61), -2);
        due.is("tape(0, 0, -1)", x.tape(0, 0, -1), -14);
        due.is("tape(0, 4, far below)", x.tape(0, 4, Integer.MIN_VALUE), -14);
        due.is("tape: still nothing", x.item(0, 0, 1), -11);
        due.is("tape(0, 0, 0)", x.tape(0, 0, 0), 1);
        due.is("tape: no place", x.item(0, 0, 1), -13);
        due.is("tape(0, 3, 60)", x.tape(0, 3, 60), 1);
        due.is("tape: the last item", x.item(0, 59, 5), 1);
        due.is("tape: refused", x.tape(0, 3, 61), -2);
        due.is("tape: as it was", x.read(0, 59), 5);
        due.is("tape: again", x.tape(0, 3, 60), 1);
        due.is("tape: all 0", x.read(0, 59), 0);
        due.is("tape(0, -1, 61)", x.tape(0, -1, 61), 1);
        due.is("tape: nothing", x.item(0, 0, 1), -11);
        due.is("tape: nothing to read", x.read(0, 0), Long.MIN_VALUE);
        x.tape(0, 2, 1);
        x.item(0, 0, 5);
        x.tape(0, 1, 1);
        due.is("tape: the first is 0, too", x.read(0, 0), 0);
        due.is("tape(5, -1, -9)", x.tape(5, -1, -9), 1);
    }

    private static void item(BearMouse x, int sort, long v, long want) {
        x.tape(1, sort, 3);
        due.is("item: sort " + sort + ", " + v, x.item(1, 2, v), 1);
        due.is("item: sort " + sort + ", " + v, x.read(1, 2), want);
        due.is("item: no other", x.read(1, 1), 0);
    }

    private static void item() {
        BearMouse x = new BearMouse();
        item(x, 0, 127, 127);
        item(x, 0, 128, -128);
        item(x, 0, -129, 127);
        item(x, 0, 256, 0);
        item(x, 1, 32768, -32768);
        item(x, 1, 65536 + 7, 7);
        item(x, 2, 1L << 31, Integer.MIN_VALUE);
        item(x, 2, (1L << 32) + 9, 9);
        item(x, 3, Long.MIN_VALUE, Long.MIN_VALUE);
        item(x, 3, Long.MAX_VALUE, Long.MAX_VALUE);
        item(x, 4, 0, 0);
        item(x, 4, 2, 1);
        item(x, 4, -1, 1);
        item(x, 4, 1L << 40, 1);
        due.is("item(6, 0, 0)", x.item(6, 0, 0), -1);
        due.is("item(-1, 0, 0)", x.item(-1, 0, 0), -1);
        due.is("item(0, -1, 0): NOTHING ahead of PLACE", x.item(0, -1, 0), -11);
        due.is("item(1, 3, 0)", x.item(1, 3, 0), -13);
        due.is("item(1, -1, 0)", x.item(1, -1, 0), -13);
        due.is("item(1, far, 0)", x.item(1, Integer.MAX_VALUE, 0), -13);
    }

    private static void read() {
        BearMouse x = new BearMouse();
        x.tape(2, 0, 2);
        x.item(2, 0, 200);
        due.is("read(2, 0)", x.read(2, 0), -56);
        due.is("read(2, 1)", x.read(2, 1), 0);
        due.is("read(2, 2)", x.read(2, 2), Long.MIN_VALUE);
        due.is("read(2, -1)", x.read(2, -1), Long.MIN_VALUE);
        due.is("read(1, 0)", x.read(1, 0), Long.MIN_VALUE);
        due.is("read(6, 0)", x.read(6, 0), Long.MIN_VALUE);
        due.is("read(-1, 0)", x.read(-1, 0), Long.MIN_VALUE);
    }

    private static void row(BearMouse x, int tape, int... want) {
        for (int i = 0; i < want.length; i++) {
            due.is("row: read(" + tape + ", " + i + ")", x.read(tape, i), want[i]);
        }
    }

    private static BearMouse rows() {
        BearMouse x = new BearMouse();
        x.tape(0, 2, 6);
        x.tape(1, 2, 4);
        x.tape(2, 3, 6);
        for (int i = 0; i < 6; i++) {
            x.item(0, i, i + 1);
        }
        return x;
    }

    private static void shift() {
        BearMouse x = rows();
        due.is("shift(0, 0, 0, 2, 4)", x.shift(0, 0, 0, 2, 4), 4);
        row(x, 0, 1, 2, 1, 2, 3, 4);
        x = rows();
        due.is("shift(0, 2, 0, 0, 4)", x.shift(0, 2, 0, 0, 4), 4);
        row(x, 0, 3, 4, 5, 6, 5, 6);
        x = rows();
        due.is("shift(0, 3, 1, 1, 3)", x.shift(0, 3, 1, 1, 3), 3);
        row(x, 1, 0, 4, 5, 6);
        row(x, 0, 1, 2, 3, 4, 5, 6);
        due.is("shift: none, at the ends", x.shift(0, 6, 1, 4, 0), 0);
        due.is("shift: all", x.shift(1, 0, 0, 0, 4), 4);
        row(x, 0, 0, 4, 5, 6, 5, 6);
        due.is("shift: as many as there are", x.shift(0, 0, 0, 0, 6), 6);
        due.is("shift: as many as there is room for", x.shift(0, 2, 1, 0, 4), 4);
        row(x, 1, 5, 6, 5, 6);
    }

    private static void refusals() {
        BearMouse x = rows();
        due.is("shift(6, 0, 0, 0, 1)", x.shift(6, 0, 0, 0, 1), -1);
        due.is("shift(0, 0, 6, 0, 1)", x.shift(0, 0, 6, 0, 1), -1);
        due.is("shift(-1, 0, 0, 0, 1)", x.shift(-1, 0, 0, 0, 1), -1);
        due.is("shift(3, -1, -1, 0, 1): NONE ahead", x.shift(3, -1, -1, 0, 1), -1);
        due.is("shift: from nothing", x.shift(3, -1, 0, 0, 1), -11);
        due.is("shift: to nothing", x.shift(0, -1, 3, 0, 1), -11);
        due.is("shift: unlike sorts, ahead of PLACE", x.shift(0, -1, 2, 0, 1), -12);
        due.is("shift: n -1", x.shift(0, 0, 1, 0, -1), -13);
        due.is("shift: i -1", x.shift(0, -1, 1, 0, 1), -13);
        due.is("shift: j -1", x.shift(0, 0, 1, -1, 1), -13);
        due.is("shift: i beyond", x.shift(0, 3, 1, 0, 4), -13);
        due.is("shift: j beyond", x.shift(0, 0, 1, 2, 3), -13);
        due.is("shift: i beyond by none", x.shift(0, 7, 1, 0, 0), -13);
        due.is("shift: j beyond by none", x.shift(0, 0, 1, 5, 0), -13);
        due.is("shift: far n", x.shift(0, 1, 1, 1, Integer.MAX_VALUE), -13);
        due.is("shift: far i", x.shift(0, Integer.MAX_VALUE, 1, 0, 1), -13);
        due.is("shift: far j", x.shift(0, 0, 1, Integer.MAX_VALUE, 1), -13);
        due.is("shift: far below", x.shift(0, 0, 1, 0, Integer.MIN_VALUE), -13);
        due.is("shift: five into four", x.shift(0, 0, 1, 0, 5), -13);
        row(x, 0, 1, 2, 3, 4, 5, 6);
        row(x, 1, 0, 0, 0, 0);
    }
}
