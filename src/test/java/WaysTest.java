/** Promises 16 to 21: ways, reach, the heaviest, cuts, stirring, meeting. */
public final class WaysTest {
    private static final Due due = new Due();

    public static void main(String[] args) {
        way();
        reach();
        heaviest();
        cut();
        stirred();
        meet();
        due.end();
    }

    private static void ways(BearMouse x, int walker, int... cells) {
        for (int k = 0; k < 16; k++) {
            due.is("way(" + walker + ", " + k + ")", x.way(walker, k), k < cells.length ? cells[k] : -5);
        }
    }

    private static void way() {
        BearMouse x = new BearMouse();
        x.walker(0, 0, 10);
        x.walker(1, 0, 10);
        ways(x, 0);
        Due.fillAll(x, 10);
        ways(x, 0, 0, 1, 2, 3);
        ways(x, 1, 0, 1, 3);
        x.set(0, 9);
        ways(x, 0, 4, 5, 6, 7);
        x.set(6, 0);
        x.set(10, 0);
        ways(x, 0, 12, 13, 14, 15);
        x.set(14, 0);
        ways(x, 0, 4, 5, 1, 2, 3);
        ways(x, 1, 4, 5, 7);
        BearMouse y = new BearMouse();
        y.walker(0, 0, 10);
        for (int cell : new int[] {12, 13, 9, 5, 1, 2, 6, 10, 14, 15}) {
            y.set(cell, 10);
        }
        ways(y, 0, 12, 13, 14, 15);
        y.set(14, 0);
        y.set(11, 10);
        ways(y, 0, 12, 13, 9, 10, 11);
        y.set(9, 0);
        y.set(8, 10);
        y.set(4, 10);
        ways(y, 0, 4, 5, 6, 10, 11);
        due.is("way: k -1", y.way(0, -1), -1);
        due.is("way: k 16", y.way(0, 16), -1);
        due.is("way: no such", y.way(1, 0), -1);
        due.is("way: walker -1", y.way(-1, 0), -1);
    }

    private static void reach() {
        BearMouse x = new BearMouse();
        x.walker(0, 0, 10);
        x.walker(4, 5, 15);
        Due.fillAll(x, 10);
        due.is("reach(0, 0, 15)", x.reach(0, 0, 15), 6);
        due.is("reach(0, 15, 0)", x.reach(0, 15, 0), 6);
        due.is("reach(1, 0, 15): leaping", x.reach(1, 0, 15), 4);
        due.is("reach(0, 9, 9)", x.reach(0, 9, 9), 0);
        due.is("reach(0, 3, 4): rows do not join", x.reach(0, 3, 4), 4);
        due.is("reach(1, 3, 4)", x.reach(1, 3, 4), 3);
        due.is("reach(1, 2, 4): no LEAP round the edge", x.reach(1, 2, 4), 2);
        x.set(9, 9);
        due.is("reach: to one that does not bear", x.reach(0, 0, 9), -5);
        due.is("reach: from one that does not bear", x.reach(0, 9, 0), -5);
        due.is("reach: on one that does not bear", x.reach(0, 9, 9), -5);
        due.is("reach: leaping over it", x.reach(1, 8, 10), 1);
        due.is("reach: around it", x.reach(0, 8, 10), 4);
        for (int from = 0; from < 16; from++) {
            steps(from);
        }
        due.is("reach: walker 2", x.reach(2, 0, 0), -1);
        due.is("reach: from 16", x.reach(0, 16, 0), -1);
        due.is("reach: to -1", x.reach(0, 0, -1), -1);
        due.is("reach: from -1", x.reach(0, -1, 0), -1);
        due.is("reach: to 16", x.reach(0, 0, 16), -1);
    }

    /** From one CELL to each other one, where these two alone BEAR anyone. */
    private static void steps(int from) {
        BearMouse x = new BearMouse();
        x.walker(0, 0, 10);
        x.walker(1, 0, 10);
        x.set(from, 10);
        for (int to = 0; to < 16; to++) {
            if (to != from) {
                x.set(to, 10);
                int rows = Math.abs(to / 4 - from / 4);
                int columns = Math.abs(to % 4 - from % 4);
                boolean straight = rows == 0 || columns == 0;
                String call = "reach(.., " + from + ", " + to + ")";
                due.is(call + " by WALKER", x.reach(0, from, to), straight && rows + columns == 1 ? 1 : -5);
                due.is(call + " by SHREW", x.reach(1, from, to), straight && rows + columns <= 2 ? 1 : -5);
                x.set(to, 0);
            }
        }
    }

    private static void heaviest() {
        BearMouse x = new BearMouse();
        x.walker(0, 3, 50);
        x.walker(2, 3, 50);
        x.walker(3, 3, 50);
        x.walker(4, 3, 50);
        x.walker(5, 3, 50);
        due.is("heaviest: 0 is borne", x.heaviest(0), 0);
        due.is("heaviest: 1 by half", x.heaviest(1), 1);
        due.is("heaviest: 3 is not", x.heaviest(2), -5);
        due.is("heaviest: 3 less", x.heaviest(3), 3);
        due.is("heaviest: BISHOP", x.heaviest(4), 1);
        Due.fill(x, 40, 30, 50, 60);
        due.is("heaviest(0)", x.heaviest(0), 30);
        due.is("heaviest(1)", x.heaviest(1), 61);
        due.is("heaviest(2)", x.heaviest(2), 27);
        due.is("heaviest(3): leaps over 1", x.heaviest(3), 43);
        due.is("heaviest(4)", x.heaviest(4), 31);
        Due.fillAll(x, 99);
        due.is("heaviest: 99 at most", x.heaviest(0), 99);
        due.is("heaviest: 99 at most, by half", x.heaviest(1), 99);
        due.is("heaviest(5)", x.heaviest(5), -1);
        due.is("heaviest(-1)", x.heaviest(-1), -1);
        due.is("heaviest: WEIGHT stays", x.of(0, 2), 50);
    }

    private static void cuts(BearMouse x, int walker, int many, int which) {
        due.is("cut(" + walker + ", 0)", x.cut(walker, 0), many);
        due.is("cut(" + walker + ", 1)", x.cut(walker, 1), which);
    }

    private static void cut() {
        BearMouse x = new BearMouse();
        x.walker(0, 0, 10);
        x.walker(1, 0, 10);
        x.walker(0, 0, 0);
        cuts(x, 0, 0, 0);
        cuts(x, 2, -5, -5);
        Due.fill(x, 10, 10, 10, 10);
        cuts(x, 0, 1, 1);
        cuts(x, 1, 1, 1);
        Due.fill(x, 10, 10, 10, 10, 10, 10, 10, 10);
        cuts(x, 0, 2, 0x0011);
        x.set(0, 0);
        cuts(x, 0, 1, 0x0010);
        x.set(4, 0);
        x.set(0, 10);
        x.set(8, 10);
        x.set(9, 10);
        cuts(x, 0, 2, 0x0021);
        Due.fillAll(x, 10);
        cuts(x, 0, -5, -5);
        x.set(5, 0);
        cuts(x, 0, 3, 0x1101);
        Due.fillAll(x, 10);
        x.set(0, 0);
        cuts(x, 0, 3, 0x1110);
        x.set(0, 10);
        due.is("cut: what 2", x.cut(0, 2), -1);
        due.is("cut: what -1", x.cut(0, -1), -1);
        due.is("cut: walker 3", x.cut(3, 0), -1);
        due.is("cut: walker -1", x.cut(-1, 0), -1);
        due.is("cut: nothing is changed", x.at(0, 0), 10);
    }

    private static void stirred() {
        BearMouse x = new BearMouse();
        x.walker(0, 0, 10);
        due.is("stirred: none helps", x.stirred(0), -5);
        Due.fill(x, 10, 10, 0, 10, 0, 0, 10);
        due.is("stirred: 6 comes to 2", x.stirred(0), 206);
        due.is("stirred: nothing is changed", x.at(2, 0), 0);
        Due.fill(x, 10, 10, 0, 10, 0, 10, 10, 10);
        due.is("stirred: the first of several", x.stirred(0), 4);
        Due.fill(x, 10, 0, 10, 10, 0, 10, 0, 0, 0, 10, 10, 10);
        due.is("stirred: the least, not the first that helps", x.stirred(0), 105);
        Due.fill(x, 10, 10, 0, 0, 0, 0, 10, 0, 0, 10, 10, 10);
        due.is("stirred: of several with one lesser, the first greater", x.stirred(0), 506);
        Due.fill(x, 10, 10, 10, 10);
        due.is("stirred: no better than 3", x.stirred(0), -5);
        Due.fillAll(x, 0);
        Due.fill(x, 10, 10, 10, 10);
        Due.brew(x, "spoon 2");
        due.is("stirred: the SPOON stays", x.stirred(0), -5);
        due.is("stirred(1)", x.stirred(1), -1);
        due.is("stirred(-1)", x.stirred(-1), -1);
    }

    private static void meet() {
        BearMouse x = new BearMouse();
        x.walker(2, 0, 20);
        x.walker(0, 0, 15);
        due.is("meet: nowhere", x.meet(0, 1), -5);
        Due.fill(x, 12, 16, 16, 0, 16, 16);
        due.is("meet: at 1", x.meet(0, 1), 1);
        due.is("meet: at 1, likewise", x.meet(1, 0), 1);
        x.set(5, 14);
        due.is("meet: one can't come there", x.meet(0, 1), -5);
        Due.fillAll(x, 20);
        due.is("meet: of several the first", x.meet(0, 1), 0);
        x.set(0, 14);
        due.is("meet: the other is not borne", x.meet(0, 1), 4);
        due.is("meet: one is both", x.meet(1, 1), -2);
        due.is("meet: no such", x.meet(2, 2), -1);
        due.is("meet: no second", x.meet(0, 2), -1);
        due.is("meet: no first", x.meet(-1, 0), -1);
        Due.fillAll(x, 0);
        x.walker(1, 0, 5);
        Due.fill(x, 10, 15, 15, 15, 15, 15, 5, 5);
        due.is("meet: a SHREW, at the near side", x.meet(1, 2), 4);
    }
}
