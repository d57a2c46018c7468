/** Promises 22 to 28: prints, what is seen and what follows from it, odds, means. */
public final class SeenTest {
    private static final Due due = new Due();

    public static void main(String[] args) {
        print();
        see();
        heft();
        can();
        was();
        odds();
        mean();
        due.end();
    }

    private static void print() {
        BearMouse x = new BearMouse();
        due.is("print(65535)", x.print(65535), 0);
        due.is("print(65536)", x.print(65536), -2);
        due.is("print(-1)", x.print(-1), -2);
        due.is("print(5)", x.print(5), 65535);
        due.is("print(0)", x.print(0), 5);
        due.is("print(0) again", x.print(0), 0);
    }

    private static void see() {
        BearMouse x = new BearMouse();
        due.is("see: none then", x.see(-1, true, 99), 0);
        due.is("see: nobody", x.see(0, true, 0), -1);
        x.walker(0, 0, 0);
        due.is("see: n -1", x.see(0, true, -1), -2);
        due.is("see: n 21", x.see(0, true, 21), -2);
        due.is("see: NONE ahead of BAD", x.see(1, true, 21), -1);
        due.is("see: walker -2", x.see(-2, true, 0), -1);
        for (int i = 1; i <= 5; i++) {
            due.is("see " + i, x.see(0, true, i * 4), i);
        }
        due.is("see: a sixth", x.see(0, true, 0), -4);
        due.is("see: BAD ahead of FULL", x.see(0, true, 21), -2);
        due.is("see: NONE ahead of FULL", x.see(1, true, 0), -1);
        due.is("see: five", x.count(2), 5);
        due.is("see: none then, again", x.see(-1, false, -7), 0);
        due.is("see: none", x.count(2), 0);
        due.is("see: first again", x.see(0, false, 0), 1);
        due.is("see: it is so not", x.heft(0, 0), 99);
        due.is("see: the least", x.heft(0, 1), 1);
    }

    private static void hefts(BearMouse x, int walker, int many, int least) {
        due.is("heft(" + walker + ", 0)", x.heft(walker, 0), many);
        due.is("heft(" + walker + ", 1)", x.heft(walker, 1), least);
    }

    private static void heft() {
        BearMouse x = new BearMouse();
        x.walker(0, 3, 50);
        x.walker(0, 3, 99);
        hefts(x, 0, 100, 0);
        x.see(0, true, 5);
        hefts(x, 0, 11, 0);
        hefts(x, 1, 0, -5);
        x.see(0, false, 3);
        hefts(x, 0, 4, 7);
        x.pass(1);
        hefts(x, 0, 4, 9);
        due.is("heft: WEIGHT stays", x.of(0, 2), 50);
        due.is("heft: STRENGTH stays", x.at(0, 0), 2);
        x.weigh(0, 10);
        hefts(x, 1, 100, 0);
        x.see(1, false, 0);
        hefts(x, 1, 97, 3);
        hefts(x, 0, 4, 9);
        x.see(0, false, 5);
        hefts(x, 0, 0, -5);
        hefts(x, 1, 0, -5);
        due.is("heft: what 2", x.heft(0, 2), -1);
        due.is("heft: what -1", x.heft(0, -1), -1);
        due.is("heft: no such", x.heft(2, 0), -1);
        due.is("heft: walker -1", x.heft(-1, 0), -1);
        BearMouse y = new BearMouse();
        y.walker(3, 3, 50);
        y.see(0, true, 5);
        hefts(y, 0, 8, 0);
    }

    private static void cans(BearMouse x, int walker, int many, int least) {
        due.is("can(" + walker + ", 0)", x.can(walker, 0), many);
        due.is("can(" + walker + ", 1)", x.can(walker, 1), least);
    }

    private static void can() {
        BearMouse x = new BearMouse();
        x.walker(3, 0, 4);
        x.walker(4, 0, 12);
        x.walker(6, 9, 0);
        cans(x, 0, 10, 0);
        x.see(0, true, 5);
        cans(x, 0, 7, 0);
        x.see(0, false, 4);
        cans(x, 0, 2, 5);
        cans(x, 1, 0, -5);
        due.is("can: v stays", x.of(0, 1), 0);
        x.see(-1, true, 0);
        x.see(1, true, 4);
        cans(x, 1, 6, 4);
        x.see(1, true, 1);
        cans(x, 1, 0, -5);
        x.see(-1, true, 0);
        x.see(2, true, 3);
        cans(x, 2, 7, 0);
        for (int row = 0; row < 4; row++) {
            x.line(2, row, 2);
        }
        cans(x, 2, 5, 0);
        due.is("can: what 2", x.can(0, 2), -1);
        due.is("can: what -1", x.can(0, -1), -1);
        due.is("can: no such", x.can(3, 0), -1);
        due.is("can: walker -1", x.can(-1, 0), -1);
    }

    private static void wass(BearMouse x, int cell, int m, int n, int many, int least) {
        due.is("was(" + cell + ", " + m + ", " + n + ", 0)", x.was(cell, m, n, 0), many);
        due.is("was(" + cell + ", " + m + ", " + n + ", 1)", x.was(cell, m, n, 1), least);
    }

    private static void was() {
        BearMouse x = new BearMouse();
        wass(x, 0, 10, 5, 1, 0);
        wass(x, 0, 9, 5, 0, -5);
        wass(x, 15, 99, 20, 41, 59);
        wass(x, 3, 42, 0, 1, 42);
        Due.brew(x, "thin 4 c=3;thick 10 s=2&c=1;thick 5 m=3&c=5");
        wass(x, 3, 0, 2, 5, 0);
        wass(x, 1, 32, 1, 2, 20);
        x.pass(2);
        wass(x, 5, 50, 2, 1, 41);
        due.is("was: nothing is changed", x.told(0), 2);
        due.is("was: cell 16", x.was(16, 100, 21, 0), -1);
        due.is("was: cell -1", x.was(-1, 0, 0, 0), -1);
        due.is("was: what 2", x.was(0, 100, 0, 2), -1);
        due.is("was: what -1", x.was(0, 0, 0, -1), -1);
        due.is("was: m 100", x.was(0, 100, 0, 0), -2);
        due.is("was: m -1", x.was(0, -1, 0, 0), -2);
        due.is("was: n 21", x.was(0, 0, 21, 0), -2);
        due.is("was: n -1", x.was(0, 0, -1, 0), -2);
    }

    private static void fraction(String call, long above, long below, long wantAbove, long wantBelow) {
        due.is(call + " above", above, wantAbove);
        due.is(call + " below", below, wantBelow);
    }

    private static void odds(BearMouse x, int walker, long above, long below) {
        fraction("odds(" + walker + ")", x.odds(walker, 0), x.odds(walker, 1), above, below);
    }

    private static void odds() {
        BearMouse x = new BearMouse();
        x.walker(0, 0, 10);
        x.walker(1, 0, 10);
        odds(x, 0, 0, 1);
        Due.fill(x, 15, 15, 15, 15);
        odds(x, 0, 3, 4);
        odds(x, 1, 7, 8);
        Due.fill(x, 20, 20, 20, 20);
        odds(x, 0, 1, 1);
        Due.fill(x, 20, 20, 19, 20);
        odds(x, 0, 15, 16);
        Due.brew(x, "milk 11");
        odds(x, 0, 3, 4);
        Due.brew(x, "milk 0");
        odds(x, 0, 1, 1);
        due.is("odds: nothing is changed", x.told(4), 79);
        due.is("odds: part 2", x.odds(0, 2), Long.MIN_VALUE);
        due.is("odds: part -1", x.odds(0, -1), Long.MIN_VALUE);
        due.is("odds: walker 2", x.odds(2, 0), Long.MIN_VALUE);
        due.is("odds: walker -1", x.odds(-1, 0), Long.MIN_VALUE);
    }

    private static void mean(BearMouse x, int n, long above, long below) {
        fraction("mean(" + n + ")", x.mean(n, 0), x.mean(n, 1), above, below);
    }

    private static void mean() {
        BearMouse x = new BearMouse();
        mean(x, 0, 0, 1);
        mean(x, 3, 6, 1);
        mean(x, 60, 99, 1);
        x.set(0, 4);
        mean(x, 0, 1, 4);
        x.set(0, 1);
        mean(x, 0, 1, 16);
        mean(x, 1, 33, 16);
        x.set(0, 6);
        mean(x, 0, 3, 8);
        x.set(0, 8);
        mean(x, 0, 1, 2);
        mean(x, 1, 5, 2);
        due.is("mean: n 61", x.mean(61, 0), Long.MIN_VALUE);
        due.is("mean: n -1", x.mean(-1, 0), Long.MIN_VALUE);
        due.is("mean: part 2", x.mean(0, 2), Long.MIN_VALUE);
        due.is("mean: part -1", x.mean(0, -1), Long.MIN_VALUE);
        due.is("mean: nothing is changed", x.told(0), 0);
    }
}
