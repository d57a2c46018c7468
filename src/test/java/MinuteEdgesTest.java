/** The edges of MINUTES that go in the terms, and of promises 13 to 15, sentence by sentence. */
public final class MinuteEdgesTest {
    private static final int LOW = Integer.MIN_VALUE;
    private static final int HIGH = Integer.MAX_VALUE;
    private static final Due due = new Due();

    public static void main(String[] args) {
        due.test(0, "A MINUTE goes, by how all is ahead of it:", MinuteEdgesTest::aheadOfIt);
        due.test(0, "STRENGTH of each CELL is what it GROWS more (0 .. 99);", MinuteEdgesTest::grown);
        due.test(0, "MINUTE is 1 more.", MinuteEdgesTest::minute);
        due.test(0, "All that follows is asked, goes on from how all is (MINUTES beyond 9999, too),", MinuteEdgesTest::beyond9999);
        due.test(0, "SOON of one: the fewest MINUTES (0 .. 60) behind which it can CROSS", MinuteEdgesTest::soonNumbers);
        due.test(0, "(-5: not by then).", MinuteEdgesTest::notSoon);
        due.test(0, "ON n MINUTES (0 .. 60): STRENGTH of a CELL; who can CROSS (bits).", MinuteEdgesTest::onNumbers);
        due.test(13, "n MINUTES (0 .. 60) go: MINUTE.", MinuteEdgesTest::pass);
        due.test(13, "BAD;", () -> {
            due.refused("pass(n)", -2, (x, n) -> x.pass(n), -1, 61, LOW, HIGH);
            due.is("pass(61) at 9999", atTheEnd().pass(61), -2);
            due.is("pass(-1) at 9999", atTheEnd().pass(-1), -2);
        });
        due.test(13, "STATE: it would be above 9999.", MinuteEdgesTest::passState);
        due.test(14, "ON: what 0 who can CROSS, 10 and c STRENGTH of CELL c.", MinuteEdgesTest::on);
        due.test(14, "NONE;", () -> {
            due.refused("on(0, n)", -1, (x, n) -> x.on(0, n), -1, 1, 9, 26, LOW, HIGH);
            due.refused("on(61, n)", -1, (x, n) -> x.on(61, n), -1, 1, 9, 26, LOW, HIGH);
        });
        due.test(14, "BAD: n.", () -> {
            due.refused("on(n, 0)", -2, (x, n) -> x.on(n, 0), -1, 61, LOW, HIGH);
            due.refused("on(n, 10)", -2, (x, n) -> x.on(n, 10), -1, 61, LOW, HIGH);
            due.refused("on(n, 25)", -2, (x, n) -> x.on(n, 25), -1, 61, LOW, HIGH);
        });
        due.test(15, "SOON; -5.", MinuteEdgesTest::soon);
        due.test(15, "NONE.", () -> due.refused("soon(n)", -1, (x, n) -> x.soon(n), -1, Rich.WALKERS, 5, LOW, HIGH));
        due.end();
    }

    /** At MINUTE 9999; all CELLS are 0, a WALKER of WEIGHT 50 is there. */
    private static BearMouse atTheEnd() {
        BearMouse x = new BearMouse();
        x.walker(3, 0, 50);
        for (int k = 0; k < 166; k++) {
            x.pass(60);
        }
        x.pass(39);
        Due.fillAll(x, 0);
        return x;
    }

    private static void aheadOfIt() {
        BearMouse x = new BearMouse();
        Due.brew(x, "thick 6 s=1;thick 20 m=1;thick 1 s>1&m=2");
        Due.fill(x, 7, 8, 9, 10, 19, 20);
        int[][] then = {{9, 10, 11, 18, 27, 22}, {31, 38, 39, 46, 49, 44}, {34, 41, 42, 49, 52, 47}};
        for (int minute = 1; minute <= 3; minute++) {
            due.is("pass(1)", x.pass(1), minute);
            for (int cell = 0; cell < 6; cell++) {
                due.is("STRENGTH of " + cell + " behind MINUTE " + minute, x.at(cell, 0), then[minute - 1][cell]);
            }
        }
        BearMouse y = new BearMouse();
        Due.brew(y, "thick 6 s=1;thick 20 m=1;thick 1 s>1&m=2");
        Due.fill(y, 7, 8, 9, 10, 19, 20);
        due.is("pass(3)", y.pass(3), 3);
        for (int cell = 0; cell < 6; cell++) {
            due.is("STRENGTH of " + cell + " behind three at once", y.at(cell, 0), then[2][cell]);
        }
    }

    private static void grown(String text, int[] ahead, int[] then) {
        BearMouse x = new BearMouse();
        Due.brew(x, text);
        Due.fill(x, ahead);
        x.pass(1);
        for (int cell = 0; cell < ahead.length; cell++) {
            due.is(text + ": " + ahead[cell] + " behind a MINUTE", x.at(cell, 0), then[cell]);
        }
    }

    private static void grown() {
        grown("milk 1", new int[] {0, 95, 96, 97, 98, 99}, new int[] {2, 97, 98, 99, 99, 99});
        grown("thin 3 c<16", new int[] {0, 1, 2, 3, 98, 99}, new int[] {0, 0, 1, 2, 97, 98});
        grown("thin 2 c<16", new int[] {0, 1, 98, 99}, new int[] {0, 1, 98, 99});
        grown("thick 97 c<16", new int[] {0, 1, 99}, new int[] {99, 99, 99});
        grown("thick 96 c<16", new int[] {0, 1, 2, 99}, new int[] {98, 99, 99, 99});
        grown("thin 99 c<16", new int[] {0, 97, 98, 99}, new int[] {0, 0, 1, 2});
        grown("thin 99 c<9;thin 99 c<9;thin 99 c<9;thin 99 c<9", new int[] {0, 99}, new int[] {0, 0});
        grown("thick 99 c<9;thick 99 c<9;thick 99 c<9", new int[] {0, 99}, new int[] {99, 99});
        BearMouse x = new BearMouse();
        Due.brew(x, "thin 9 m=1");
        x.set(0, 3);
        x.pass(3);
        due.is("0 in between, not less", x.at(0, 0), 2);
        Due.brew(x, "thin 9 m=4");
        x.set(0, 98);
        x.pass(2);
        due.is("99 in between, not more", x.at(0, 0), 92);
    }

    private static void minute() {
        BearMouse x = new BearMouse();
        for (int minute = 1; minute <= 12; minute++) {
            due.is("pass(1)", x.pass(1), minute);
            due.is("told(0)", x.told(0), minute);
        }
    }

    private static void beyond9999() {
        BearMouse x = atTheEnd();
        Due.brew(x, "thick 1 m=9;thick 2 m=0;thick 4 m=1");
        due.is("on(1, 10)", x.on(1, 10), 3);
        due.is("on(2, 10)", x.on(2, 10), 7);
        due.is("on(3, 10)", x.on(3, 10), 13);
        due.is("on(60, 10)", x.on(60, 10), 99);
        due.is("soon(0)", x.soon(0), 18);
        due.is("mean(3, 0)", x.mean(3, 0), 13);
        due.is("mean(60, 0)", x.mean(60, 0), 99);
        due.is("was(0, 13, 3, 1)", x.was(0, 13, 3, 1), 0);
        due.is("was(0, 13, 3, 0)", x.was(0, 13, 3, 0), 1);
        x.see(0, true, 3);
        due.is("heft(0, 0)", x.heft(0, 0), 14);
        x.weigh(0, 10);
        due.is("can(0, 0)", x.can(0, 0), 4);
        for (int k = 0; k < 3; k++) {
            x.afternoon(0, 0);
        }
        due.is("ends(1)", x.ends(1), 16 * 13);
        due.is("ends(0)", x.ends(0), 1);
        due.is("MINUTE", x.told(0), 9999);
        due.is("STRENGTH", x.told(4), 0);
    }

    /** A WALKER whose WEIGHT is n, where each MINUTE gives 1. */
    private static BearMouse slow(int n) {
        BearMouse x = new BearMouse();
        Due.brew(x, "thin 1 c<16");
        x.walker(0, 0, n);
        return x;
    }

    private static void soonNumbers() {
        for (int n = 0; n <= 60; n++) {
            due.is("soon(0) by WEIGHT " + n, slow(n).soon(0), n);
        }
        BearMouse x = slow(70);
        x.pass(10);
        due.is("soon(0) behind 10 MINUTES", x.soon(0), 60);
        BearMouse y = slow(20);
        Due.brew(y, "thick 18 m=0;thin 99 m=1");
        due.is("soon(0), though it can't a MINUTE later", y.soon(0), 1);
        due.is("on(2, 0)", y.on(2, 0), 0);
    }

    private static void notSoon() {
        for (int n = 61; n <= 99; n += 19) {
            due.is("soon(0) by WEIGHT " + n, slow(n).soon(0), -5);
        }
        BearMouse x = slow(61);
        due.is("not by 60", x.soon(0), -5);
        x.pass(1);
        due.is("a MINUTE later", x.soon(0), 60);
        BearMouse y = new BearMouse();
        y.walker(3, 1, 99);
        due.is("never", y.soon(0), -5);
    }

    private static void onNumbers() {
        BearMouse x = slow(60);
        x.walker(0, 0, 59);
        x.walker(0, 0, 0);
        for (int n = 0; n <= 60; n++) {
            due.is("on(" + n + ", 10)", x.on(n, 10), n);
            due.is("on(" + n + ", 25)", x.on(n, 25), n);
            due.is("on(" + n + ", 0)", x.on(n, 0), n == 60 ? 7 : n == 59 ? 6 : 4);
        }
        due.is("on(61, 10)", x.on(61, 10), -2);
        due.is("on(-1, 10)", x.on(-1, 10), -2);
        due.is("MINUTE", x.told(0), 0);
    }

    private static void pass() {
        BearMouse x = new BearMouse();
        due.is("pass(0)", x.pass(0), 0);
        due.is("STRENGTH behind 0", x.told(4), 0);
        due.is("pass(60)", x.pass(60), 60);
        due.is("STRENGTH behind 60", x.at(0, 0), 99);
        x.set(0, 0);
        due.is("pass(1)", x.pass(1), 61);
        due.is("STRENGTH behind 61", x.at(0, 0), 2);
        due.is("pass(0) again", x.pass(0), 61);
    }

    private static void passState() {
        BearMouse x = new BearMouse();
        for (int k = 0; k < 166; k++) {
            x.pass(60);
        }
        Due.fillAll(x, 7);
        due.is("pass(40) at 9960", x.pass(40), -3);
        due.is("pass(60) at 9960", x.pass(60), -3);
        due.is("MINUTE is as it was", x.told(0), 9960);
        due.is("STRENGTH is as it was", x.told(4), 7 * 16);
        due.is("pass(39) at 9960", x.pass(39), 9999);
        due.is("pass(1) at 9999", x.pass(1), -3);
        due.is("pass(60) at 9999", x.pass(60), -3);
        due.is("pass(0) at 9999", x.pass(0), 9999);
        due.is("MINUTE in the end", x.told(0), 9999);
    }

    private static void on() {
        BearMouse x = new BearMouse();
        for (int k = 0; k < 5; k++) {
            x.walker(0, 0, 2 * k);
        }
        Due.brew(x, "thick 1 c=0;thick 5 c=15;thin 5 c=8");
        for (int cell = 0; cell < 16; cell++) {
            due.is("on(2, " + (10 + cell) + ")", x.on(2, 10 + cell), cell == 0 ? 6 : cell == 15 ? 14 : cell == 8 ? 0 : 4);
        }
        due.is("on(0, 0)", x.on(0, 0), 1);
        due.is("on(1, 0)", x.on(1, 0), 3);
        due.is("on(2, 0)", x.on(2, 0), 7);
        due.is("on(4, 0)", x.on(4, 0), 31);
    }

    private static void soon() {
        BearMouse x = slow(0);
        x.walker(0, 0, 99);
        due.is("soon(0)", x.soon(0), 0);
        due.is("soon(1)", x.soon(1), -5);
        x.pass(39);
        due.is("soon(1) behind 39", x.soon(1), 60);
        due.is("of(1, 3)", x.of(1, 3), -5);
        x.pass(60);
        due.is("soon(1) behind 99", x.soon(1), 0);
        due.is("of(1, 3) behind 99", x.of(1, 3), 3);
    }
}
