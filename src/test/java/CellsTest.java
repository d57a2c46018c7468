/** Promises 1 to 9: a new object, walkers, what they need, cells, milk, stirring. */
public final class CellsTest {
    private static final Due due = new Due();

    public static void main(String[] args) {
        newObject();
        walker();
        of();
        at();
        set();
        weigh();
        line();
        milk();
        stir();
        due.end();
    }

    private static void newObject() {
        BearMouse x = new BearMouse();
        for (int what = 0; what < 7; what++) {
            due.is("new: count(" + what + ")", x.count(what), 0);
        }
        for (int cell = 0; cell < 16; cell++) {
            due.is("new: at(" + cell + ", 0)", x.at(cell, 0), 0);
            due.is("new: at(" + cell + ", 1)", x.at(cell, 1), 2);
            due.is("new: at(" + cell + ", 2)", x.at(cell, 2), 0);
        }
        due.is("new: told(0)", x.told(0), 0);
        due.is("new: told(1)", x.told(1), -5);
        due.is("new: told(2)", x.told(2), 10);
        due.is("new: undo()", x.undo(), -3);
        due.is("new: trace(0)", x.trace(0), -1);
        due.is("new: looked()", x.looked(), -5);
        due.is("new: read(0, 0)", x.read(0, 0), Long.MIN_VALUE);
        due.is("new: of(0, 0)", x.of(0, 0), -1);
    }

    private static void walker() {
        BearMouse x = new BearMouse();
        due.is("walker: kind -1", x.walker(-1, 0, 0), -1);
        due.is("walker: kind 7, ahead of v", x.walker(7, 10, 100), -1);
        due.is("walker: v 10", x.walker(0, 10, 0), -2);
        due.is("walker: v -1", x.walker(0, -1, 0), -2);
        due.is("walker: weight 100", x.walker(0, 0, 100), -2);
        due.is("walker: weight -1", x.walker(0, 0, -1), -2);
        due.is("walker: none came", x.count(0), 0);
        due.is("walker: first", x.walker(0, 9, 99), 0);
        due.is("walker: second", x.walker(6, 0, 0), 1);
        due.is("walker: third", x.walker(1, 1, 1), 2);
        due.is("walker: fourth", x.walker(2, 2, 2), 3);
        due.is("walker: fifth", x.walker(3, 3, 3), 4);
        due.is("walker: sixth", x.walker(4, 4, 4), -4);
        due.is("walker: BAD ahead of FULL", x.walker(4, 10, 4), -2);
        due.is("walker: NONE ahead of FULL", x.walker(7, 4, 4), -1);
        due.is("walker: five", x.count(0), 5);
    }

    private static void of() {
        int[] row0 = {31, 31, 15, 38, 24, 30, 38 + 1};
        int[] row2 = {31, 31, 31, 38, 24, 62, 38 + 5};
        for (int kind = 0; kind < 7; kind++) {
            BearMouse x = new BearMouse();
            x.walker(kind, 7, 31);
            x.line(0, 0, 1);
            x.line(0, 2, 5);
            due.is("of: KIND " + kind, x.of(0, 0), kind);
            due.is("of: v", x.of(0, 1), 7);
            due.is("of: WEIGHT", x.of(0, 2), 31);
            due.is("of: CROSS", x.of(0, 3), -5);
            due.is("of: NEEDS at 0 of KIND " + kind, x.of(0, 10), row0[kind]);
            due.is("of: NEEDS at 3 of KIND " + kind, x.of(0, 13), row0[kind]);
            due.is("of: NEEDS at 8 of KIND " + kind, x.of(0, 18), row2[kind]);
            due.is("of: NEEDS at 15 of KIND " + kind, x.of(0, 25), kind == 6 ? 38 : row2[kind]);
            due.is("of: what 26", x.of(0, 26), -1);
            due.is("of: what 9", x.of(0, 9), -1);
            due.is("of: what 4", x.of(0, 4), -1);
            due.is("of: what -1", x.of(0, -1), -1);
            due.is("of: no such", x.of(1, 0), -1);
            due.is("of: walker -1", x.of(-1, 0), -1);
            due.is("of: far", x.of(Integer.MIN_VALUE, Integer.MAX_VALUE), -1);
        }
        BearMouse x = new BearMouse();
        x.walker(4, 9, 8);
        due.is("of: a BEETLE needs 0 at least", x.of(0, 10), 0);
        x.walker(0, 0, 30);
        Due.fill(x, 30, 30, 30, 30);
        due.is("of: WALKER's CROSS", x.of(1, 3), 3);
        x.walker(1, 0, 30);
        due.is("of: SHREW leaps", x.of(2, 3), 2);
        x.set(1, 29);
        due.is("of: WALKER no more", x.of(1, 3), -5);
        due.is("of: SHREW leaps over, lands on 2, goes on", x.of(2, 3), 2);
        x.set(2, 29);
        due.is("of: SHREW no more", x.of(2, 3), -5);
        Due.brew(x, "spoon 0");
        Due.fillAll(x, 99);
        due.is("of: not by the SPOON", x.of(1, 3), 3);
        for (int cell = 4; cell < 16; cell++) {
            x.set(cell, 0);
        }
        due.is("of: no one stands on the SPOON", x.of(1, 3), -5);
    }

    private static void at() {
        BearMouse x = new BearMouse();
        x.walker(0, 0, 10);
        x.walker(2, 0, 20);
        x.walker(0, 0, 0);
        x.set(1, 10);
        due.is("at: STRENGTH", x.at(1, 0), 10);
        due.is("at: row 0 bears the HEN by half", x.at(1, 2), 7);
        x.set(5, 10);
        due.is("at: row 1 does not", x.at(5, 2), 5);
        x.set(5, 9);
        due.is("at: one less bears one less", x.at(5, 2), 4);
        Due.brew(x, "spoon 1;thick 3 c=1;thin 9 c=1|c=5");
        due.is("at: the SPOON bears nobody", x.at(1, 2), 0);
        due.is("at: GROWS below 0", x.at(1, 1), -4);
        due.is("at: GROWS of 5", x.at(5, 1), -7);
        due.is("at: GROWS of 6", x.at(6, 1), 2);
        due.is("at: cell 16", x.at(16, 0), -1001);
        due.is("at: cell -1", x.at(-1, 0), -1001);
        due.is("at: what 3", x.at(0, 3), -1001);
        due.is("at: what -1", x.at(0, -1), -1001);
    }

    private static void set() {
        BearMouse x = new BearMouse();
        due.is("set(15, 99)", x.set(15, 99), 0);
        due.is("set(15, 0)", x.set(15, 0), 99);
        due.is("set(15, 7)", x.set(15, 7), 0);
        due.is("set(15, 100)", x.set(15, 100), -2);
        due.is("set(15, -1)", x.set(15, -1), -2);
        due.is("set: as it was", x.at(15, 0), 7);
        due.is("set(16, 100)", x.set(16, 100), -1);
        due.is("set(-1, 0)", x.set(-1, 0), -1);
        due.is("set: no other", x.told(4), 7);
    }

    private static void weigh() {
        BearMouse x = new BearMouse();
        due.is("weigh: nobody", x.weigh(0, 5), -1);
        x.walker(3, 2, 40);
        due.is("weigh(0, 99)", x.weigh(0, 99), 40);
        due.is("weigh(0, 0)", x.weigh(0, 0), 99);
        due.is("weigh(0, 100)", x.weigh(0, 100), -2);
        due.is("weigh(0, -1)", x.weigh(0, -1), -2);
        due.is("weigh(1, 100)", x.weigh(1, 100), -1);
        due.is("weigh(-1, 0)", x.weigh(-1, 0), -1);
        due.is("weigh: as told", x.of(0, 2), 0);
        due.is("weigh: NEEDS", x.of(0, 10), 2);
    }

    private static void line() {
        BearMouse x = new BearMouse();
        due.is("line: nobody", x.line(0, 0, 1), -1);
        x.walker(6, 1, 10);
        x.walker(3, 1, 10);
        due.is("line(0, 3, 9)", x.line(0, 3, 9), 0);
        due.is("line(0, 3, 4)", x.line(0, 3, 4), 9);
        due.is("line(0, 0, 0)", x.line(0, 0, 0), 0);
        due.is("line(0, 3, 10)", x.line(0, 3, 10), -2);
        due.is("line(0, 3, -1)", x.line(0, 3, -1), -2);
        due.is("line(0, 4, 10)", x.line(0, 4, 10), -1);
        due.is("line(0, -1, 0)", x.line(0, -1, 0), -1);
        due.is("line(2, 0, 0)", x.line(2, 0, 0), -1);
        due.is("line(1, 0, 10)", x.line(1, 0, 10), -2);
        due.is("line(1, 4, 0)", x.line(1, 4, 0), -1);
        due.is("line(1, 0, 0)", x.line(1, 0, 0), -3);
        due.is("line: row 3", x.of(0, 22), 15);
        due.is("line: row 2", x.of(0, 21), 11);
    }

    private static void milk() {
        BearMouse x = new BearMouse();
        Due.fill(x, 25, 9, 10);
        due.is("milk(0)", x.milk(0), 15);
        due.is("milk(1)", x.milk(1), 0);
        due.is("milk(2)", x.milk(2), 0);
        due.is("milk(16)", x.milk(16), -1);
        due.is("milk(-1)", x.milk(-1), -1);
        Due.brew(x, "milk 99;milk 3");
        due.is("milk: the last one's", x.milk(0), 12);
        due.is("milk: together", x.told(4), 12);
        due.is("milk: no MINUTE", x.told(0), 0);
    }

    private static void stir() {
        BearMouse x = new BearMouse();
        for (int cell = 0; cell < 16; cell++) {
            x.set(cell, 10 + cell);
        }
        due.is("stir(0, 1)", x.stir(0, 1), 11);
        due.is("stir: the other", x.at(1, 0), 10);
        due.is("stir(8, 4)", x.stir(8, 4), 14);
        due.is("stir: 4", x.at(4, 0), 18);
        due.is("stir(3, 4)", x.stir(3, 4), -2);
        due.is("stir(4, 3)", x.stir(4, 3), -2);
        due.is("stir(0, 2): a LEAP", x.stir(0, 2), -2);
        due.is("stir(0, 8): a LEAP", x.stir(0, 8), -2);
        due.is("stir(0, 5)", x.stir(0, 5), -2);
        due.is("stir(7, 7)", x.stir(7, 7), -2);
        due.is("stir(12, 16)", x.stir(12, 16), -1);
        due.is("stir(16, 12)", x.stir(16, 12), -1);
        due.is("stir(0, -1)", x.stir(0, -1), -1);
        due.is("stir(-4, 0)", x.stir(-4, 0), -1);
        due.is("stir(15, 11)", x.stir(15, 11), 21);
        due.is("stir: together", x.told(4), 16 * 10 + 120);
        due.is("stir: 3", x.at(3, 0), 13);
    }
}
