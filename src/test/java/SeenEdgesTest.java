/** The edges of PRINTS, SEEN, HEFT, CAN, WAS, ODDS and MEANS in the terms, and of promises 22 to 28. */
public final class SeenEdgesTest {
    private static final int LOW = Integer.MIN_VALUE;
    private static final int HIGH = Integer.MAX_VALUE;
    private static final long NO = Long.MIN_VALUE;
    private static final Due due = new Due();

    public static void main(String[] args) {
        told();
        found();
        promises22To24();
        promises25To28();
        due.end();
    }

    private static void told() {
        due.test(0, "PRINTS told by hand: CELLS (as bits, 0 .. 65535).", SeenEdgesTest::prints);
        due.test(0, "WHOSE: those WALKERS, as bits, whom all CELLS of PRINTS BEAR.", SeenEdgesTest::whose);
        due.test(0, "SEEN told by hand: a WALKER, whether it can CROSS behind n MINUTES (0 .. 20) from now", SeenEdgesTest::seen);
        due.test(0, "(5 at most). HEFT", SeenEdgesTest::seenAtMost);
    }

    private static void found() {
        due.test(0, "HEFT of one: how many numbers (0 .. 99) there are by which, were that its WEIGHT now,", SeenEdgesTest::heftNumbers);
        due.test(0, "all of SEEN is so; the least", SeenEdgesTest::heftByAll);
        due.test(0, "(-5: none). CAN", SeenEdgesTest::noHeft);
        due.test(0, "CAN of one: how many numbers v (0 .. 9) there are by which, were that its v now, likewise; the least", SeenEdgesTest::canNumbers);
        due.test(0, "(-5: none). WAS", SeenEdgesTest::noCan);
        due.test(0, "WAS of a CELL, a number m (0 .. 99) and n MINUTES (0 .. 20):", SeenEdgesTest::wasNumbers);
        due.test(0, "how many numbers (0 .. 99) there are by which, were that its STRENGTH now, it is m behind n;", SeenEdgesTest::wasMany);
        due.test(0, "the least (-5: none).\n  ODDS", SeenEdgesTest::noWas);
        due.test(0, "ODDS of one: if there is MILK on any CELL now, each alike likely: how likely it can CROSS:", SeenEdgesTest::oddsOfEach);
        due.test(0, "a fraction in lowest terms. MEAN", SeenEdgesTest::oddsLowest);
        due.test(0, "MEAN of n MINUTES (0 .. 60): STRENGTH of all CELLS behind n, together, by 16:", SeenEdgesTest::meanNumbers);
        due.test(0, "a fraction in lowest terms.\n  AN AFTERNOON", SeenEdgesTest::meanLowest);
    }

    private static void promises22To24() {
        due.test(22, "PRINTS are CELLS (bits): what they were (0 at first).", SeenEdgesTest::print);
        due.test(22, "BAD.", () -> due.refused("print(n)", -2, (x, n) -> x.print(n), -1, 65536, LOW, HIGH));
        due.test(23, "What is SEEN comes: how many there are", SeenEdgesTest::see);
        due.test(23, "(walker -1: none then, 0, whatever the others are).", SeenEdgesTest::seeNone);
        due.test(23, "NONE;", () -> {
            due.refused("see(n, true, 0)", -1, (x, n) -> x.see(n, true, 0), -2, Rich.WALKERS, 5, LOW, HIGH);
            due.refused("see(n, true, 21)", -1, (x, n) -> x.see(n, true, 21), -2, Rich.WALKERS, 5, LOW, HIGH);
            due.unchangedFull("see(5, true, 0)", -1, x -> x.see(5, true, 0));
        });
        due.test(23, "BAD: n;", () -> {
            due.refused("see(0, true, n)", -2, (x, n) -> x.see(0, true, n), -1, 21, LOW, HIGH);
            due.unchangedFull("see(0, true, 21)", -2, x -> x.see(0, true, 21));
        });
        due.test(23, "FULL: 5.", () -> due.unchangedFull("see(0, false, 0)", -4, x -> x.see(0, false, 0)));
        due.test(24, "HEFT: what 0 how many, 1 the least; -5.", SeenEdgesTest::heft);
        due.test(24, "NONE.", () -> {
            due.refused("heft(n, 0)", -1, (x, n) -> x.heft(n, 0), -1, Rich.WALKERS, 5, LOW, HIGH);
            due.refused("heft(0, n)", -1, (x, n) -> x.heft(0, n), -1, 2, LOW, HIGH);
        });
    }

    private static void promises25To28() {
        due.test(25, "CAN: what 0 how many, 1 the least; -5.", SeenEdgesTest::can);
        due.test(25, "NONE.", () -> {
            due.refused("can(n, 0)", -1, (x, n) -> x.can(n, 0), -1, Rich.WALKERS, 5, LOW, HIGH);
            due.refused("can(0, n)", -1, (x, n) -> x.can(0, n), -1, 2, LOW, HIGH);
        });
        due.test(26, "WAS: what 0 how many, 1 the least; -5.", SeenEdgesTest::was);
        due.test(26, "NONE: cell,", () -> {
            due.refused("was(n, 0, 0, 0)", -1, (x, n) -> x.was(n, 0, 0, 0), -1, 16, LOW, HIGH);
            due.refused("was(n, 100, 21, 0)", -1, (x, n) -> x.was(n, 100, 21, 0), -1, 16);
        });
        due.test(26, "what;", () -> {
            due.refused("was(0, 0, 0, n)", -1, (x, n) -> x.was(0, 0, 0, n), -1, 2, LOW, HIGH);
            due.refused("was(0, 100, 21, n)", -1, (x, n) -> x.was(0, 100, 21, n), -1, 2);
        });
        due.test(26, "BAD: m,", () -> due.refused("was(0, n, 0, 0)", -2, (x, n) -> x.was(0, n, 0, 0), -1, 100, LOW, HIGH));
        due.test(26, "n.", () -> due.refused("was(0, 0, n, 0)", -2, (x, n) -> x.was(0, 0, n, 0), -1, 21, LOW, HIGH));
        due.test(27, "ODDS; part 0 above, 1 below the line.", SeenEdgesTest::odds);
        due.test(27, "NO: walker,", () -> due.refused("odds(n, 0)", NO, (x, n) -> x.odds(n, 0), -1, Rich.WALKERS, 5, LOW, HIGH));
        due.test(27, "part.", () -> due.refused("odds(0, n)", NO, (x, n) -> x.odds(0, n), -1, 2, LOW, HIGH));
        due.test(28, "MEAN; part likewise.", SeenEdgesTest::mean);
        due.test(28, "NO: n,", () -> due.refused("mean(n, 0)", NO, (x, n) -> x.mean(n, 0), -1, 61, LOW, HIGH));
        due.test(28, "part.", () -> due.refused("mean(0, n)", NO, (x, n) -> x.mean(0, n), -1, 2, LOW, HIGH));
    }

    // ---- PRINTS, SEEN

    private static void prints() {
        BearMouse x = new BearMouse();
        int before = 0;
        for (int cell = 0; cell < 16; cell++) {
            due.is("print(" + (1 << cell) + ")", x.print(1 << cell), before);
            before = 1 << cell;
        }
        due.is("print(65535)", x.print(65535), before);
        due.is("print(65536)", x.print(65536), -2);
        due.is("print(-1)", x.print(-1), -2);
        due.is("print(0)", x.print(0), 65535);
        due.is("print(0) again", x.print(0), 0);
    }

    private static void whose() {
        BearMouse x = new BearMouse();
        due.is("nobody's", x.told(5), 0);
        for (int k = 0; k < 5; k++) {
            x.walker(0, 0, 10 * k);
        }
        due.is("no PRINTS, all WALKERS", x.told(5), 31);
        for (int cell = 0; cell < 16; cell++) {
            x.set(cell, 3 * cell);
        }
        for (int cell = 0; cell < 16; cell++) {
            x.print(1 << cell);
            int bits = 0;
            for (int k = 0; k < 5; k++) {
                bits |= 3 * cell >= 10 * k ? 1 << k : 0;
            }
            due.is("PRINTS at " + cell, x.told(5), bits);
        }
        x.print(0x9010);
        due.is("by all of 4, 12 and 15", x.told(5), 3);
        x.print(65535);
        due.is("by all", x.told(5), 1);
        Due.brew(x, "spoon 7");
        due.is("by the SPOON", x.told(5), 0);
    }

    /** A WALKER whose WEIGHT is unknown, where STRENGTH is 2 more by the MINUTE. */
    private static BearMouse seen(boolean can, int n) {
        BearMouse x = new BearMouse();
        x.walker(0, 0, 50);
        due.is("see(0, " + can + ", " + n + ")", x.see(0, can, n), 1);
        return x;
    }

    private static void hefts(String when, BearMouse x, int many, int least) {
        due.is(when + ": heft(0, 0)", x.heft(0, 0), many);
        due.is(when + ": heft(0, 1)", x.heft(0, 1), least);
    }

    private static void seen() {
        for (int n = 0; n <= 20; n++) {
            hefts("can behind " + n, seen(true, n), 2 * n + 1, 0);
            hefts("can't behind " + n, seen(false, n), 99 - 2 * n, 2 * n + 1);
        }
        due.is("n 21", seen(true, 0).see(0, true, 21), -2);
        due.is("n -1", seen(true, 0).see(0, true, -1), -2);
        BearMouse x = seen(true, 5);
        x.pass(10);
        hefts("from now, 10 MINUTES later", x, 31, 0);
    }

    private static void seenAtMost() {
        BearMouse x = new BearMouse();
        x.walker(0, 0, 50);
        for (int k = 1; k <= 5; k++) {
            due.is("see: row " + k, x.see(0, true, 20 - k), k);
            hefts("behind row " + k, x, 2 * (20 - k) + 1, 0);
        }
        due.is("see: a sixth", x.see(0, true, 0), -4);
        hefts("behind the sixth", x, 31, 0);
        due.is("count(2)", x.count(2), 5);
    }

    // ---- HEFT, CAN, WAS

    private static void heftNumbers() {
        BearMouse x = new BearMouse();
        x.walker(0, 0, 50);
        hefts("nothing SEEN", x, 100, 0);
        Due.fillAll(x, 99);
        x.see(0, true, 0);
        hefts("99 crosses", x, 100, 0);
        Due.fillAll(x, 98);
        hefts("99 does not", x, 99, 0);
        x.see(-1, true, 0);
        x.see(0, false, 0);
        hefts("99 alone", x, 1, 99);
        Due.fillAll(x, 0);
        hefts("all but 0", x, 99, 1);
        x.see(-1, true, 0);
        x.see(0, true, 0);
        hefts("0 alone", x, 1, 0);
        due.is("its WEIGHT", x.of(0, 2), 50);
    }

    private static void heftByAll() {
        BearMouse x = new BearMouse();
        x.walker(0, 0, 50);
        x.walker(0, 0, 10);
        x.see(0, true, 10);
        x.see(0, false, 3);
        hefts("by two rows", x, 14, 7);
        x.see(1, true, 5);
        hefts("by a row of another, that is so", x, 14, 7);
        x.see(1, false, 4);
        hefts("by two rows of another", x, 14, 7);
        due.is("of the other", x.heft(1, 0), 0);
        x.weigh(0, 20);
        due.is("of the other, as the first's WEIGHT is so", x.heft(1, 0), 2);
        due.is("the least of the other", x.heft(1, 1), 9);
        x.weigh(1, 11);
        hefts("by a row of another, that is not so", x, 0, -5);
    }

    private static void noHeft() {
        BearMouse x = new BearMouse();
        x.walker(3, 9, 50);
        x.see(0, true, 4);
        hefts("9 never", x, 0, -5);
        x.see(-1, true, 0);
        x.see(0, true, 5);
        hefts("1 more", x, 2, 0);
        x.see(0, false, 5);
        hefts("both at once", x, 0, -5);
    }

    private static void cans(String when, BearMouse x, int walker, int many, int least) {
        due.is(when + ": can(" + walker + ", 0)", x.can(walker, 0), many);
        due.is(when + ": can(" + walker + ", 1)", x.can(walker, 1), least);
    }

    private static void canNumbers() {
        BearMouse x = new BearMouse();
        x.walker(3, 5, 0);
        x.walker(4, 5, 9);
        cans("nothing SEEN", x, 0, 10, 0);
        x.see(0, true, 0);
        cans("0 alone", x, 0, 1, 0);
        cans("none by another's", x, 1, 0, -5);
        Due.fillAll(x, 9);
        cans("all", x, 0, 10, 0);
        Due.fillAll(x, 8);
        cans("9 not", x, 0, 9, 0);
        x.see(-1, true, 0);
        x.see(0, false, 0);
        cans("9 alone", x, 0, 1, 9);
        x.see(-1, true, 0);
        x.see(1, true, 0);
        cans("a BEETLE from 1 on", x, 1, 9, 1);
        Due.fillAll(x, 0);
        cans("a BEETLE's 9 alone", x, 1, 1, 9);
        due.is("its v", x.of(1, 1), 5);
    }

    private static void noCan() {
        BearMouse x = new BearMouse();
        x.walker(3, 5, 10);
        x.walker(0, 5, 1);
        x.see(0, true, 4);
        cans("10 never", x, 0, 0, -5);
        x.see(-1, true, 0);
        x.see(0, true, 5);
        cans("0 alone", x, 0, 1, 0);
        x.see(-1, true, 0);
        x.see(1, true, 0);
        cans("v does not matter, not so", x, 1, 0, -5);
        x.see(-1, true, 0);
        x.see(1, false, 0);
        cans("v does not matter, so", x, 1, 10, 0);
    }

    private static void wass(BearMouse x, int cell, int m, int n, int many, int least) {
        due.is("was(" + cell + ", " + m + ", " + n + ", 0)", x.was(cell, m, n, 0), many);
        due.is("was(" + cell + ", " + m + ", " + n + ", 1)", x.was(cell, m, n, 1), least);
    }

    private static void wasNumbers() {
        BearMouse x = new BearMouse();
        for (int n = 0; n <= 20; n++) {
            wass(x, 15, 98, n, 1, 98 - 2 * n);
            wass(x, 0, 99, n, 2 * n + 1, 99 - 2 * n);
            wass(x, 7, 0, n, n == 0 ? 1 : 0, n == 0 ? 0 : -5);
        }
        due.is("m 100", x.was(0, 100, 0, 0), -2);
        due.is("m -1", x.was(0, -1, 0, 0), -2);
        due.is("n 21", x.was(0, 99, 21, 0), -2);
        due.is("n -1", x.was(0, 99, -1, 0), -2);
    }

    private static void wasMany() {
        BearMouse x = new BearMouse();
        Due.brew(x, "thin 99 c=0;thin 22 s=4&c=1;thick 97 c=2;thin 3 c=3;thick 5 m=1&c=4");
        wass(x, 0, 0, 1, 98, 0);
        wass(x, 0, 2, 1, 1, 99);
        wass(x, 0, 0, 2, 100, 0);
        wass(x, 1, 20, 1, 2, 18);
        wass(x, 1, 40, 1, 1, 38);
        wass(x, 1, 42, 1, 0, -5);
        wass(x, 2, 99, 1, 100, 0);
        wass(x, 3, 0, 20, 21, 0);
        wass(x, 3, 79, 20, 1, 99);
        wass(x, 4, 30, 2, 1, 21);
        x.pass(1);
        wass(x, 4, 30, 2, 1, 21);
        x.pass(1);
        wass(x, 4, 30, 2, 1, 26);
    }

    private static void noWas() {
        BearMouse x = new BearMouse();
        wass(x, 0, 1, 1, 0, -5);
        wass(x, 0, 2, 1, 1, 0);
        wass(x, 0, 39, 20, 0, -5);
        wass(x, 0, 40, 20, 1, 0);
        Due.brew(x, "thin 3 c<16");
        wass(x, 0, 99, 1, 0, -5);
        wass(x, 0, 98, 1, 1, 99);
    }

    // ---- ODDS, MEAN

    private static void fraction(String call, long above, long below, int of16) {
        int wantBelow = 16;
        int wantAbove = of16;
        while (wantAbove % 2 == 0 && wantBelow > 1) {
            wantAbove /= 2;
            wantBelow /= 2;
        }
        due.is(call + " above the line", above, wantAbove);
        due.is(call + " below the line", below, wantBelow);
    }

    /** On a WALKER's only way each CELL that has no more than it NEEDS is one by whose MILK it can't CROSS. */
    private static void oddsOfEach() {
        int[] way = {0, 1, 5, 9, 13, 14, 15};
        for (int weak = 0; weak <= way.length; weak++) {
            BearMouse x = new BearMouse();
            x.walker(0, 0, 10);
            for (int k = 0; k < way.length; k++) {
                x.set(way[k], k < weak ? 19 : 20);
            }
            fraction("odds by " + weak + " that are weak", x.odds(0, 0), x.odds(0, 1), 16 - weak);
        }
        BearMouse x = new BearMouse();
        x.walker(0, 0, 10);
        fraction("odds of none", x.odds(0, 0), x.odds(0, 1), 0);
        Due.fill(x, 10, 10, 10, 10);
        fraction("odds of a ROW", x.odds(0, 0), x.odds(0, 1), 12);
        Due.brew(x, "milk 0");
        fraction("odds of MILK that is none", x.odds(0, 0), x.odds(0, 1), 16);
        x.weigh(0, 0);
        Due.brew(x, "milk 99");
        fraction("odds of nothing to bear", x.odds(0, 0), x.odds(0, 1), 16);
        Due.brew(x, "milk 99;spoon 0");
        Due.fillAll(x, 5);
        x.weigh(0, 5);
        for (int cell = 4; cell < 16; cell++) {
            x.set(cell, 0);
        }
        fraction("odds by a SPOON", x.odds(0, 0), x.odds(0, 1), 0);
    }

    private static void oddsLowest() {
        BearMouse x = new BearMouse();
        x.walker(0, 0, 10);
        due.is("0 by 1, above", x.odds(0, 0), 0);
        due.is("0 by 1, below", x.odds(0, 1), 1);
        Due.fill(x, 19, 19, 19, 19);
        due.is("3 by 4, above", x.odds(0, 0), 3);
        due.is("3 by 4, below", x.odds(0, 1), 4);
        Due.fill(x, 20, 20, 19, 19);
        due.is("7 by 8, above", x.odds(0, 0), 7);
        due.is("7 by 8, below", x.odds(0, 1), 8);
        Due.fill(x, 20, 20, 20, 19);
        due.is("15 by 16, above", x.odds(0, 0), 15);
        due.is("15 by 16, below", x.odds(0, 1), 16);
        Due.fill(x, 20, 20, 20, 20);
        due.is("1 by 1, above", x.odds(0, 0), 1);
        due.is("1 by 1, below", x.odds(0, 1), 1);
    }

    private static void meanNumbers() {
        BearMouse x = new BearMouse();
        for (int n = 0; n <= 60; n++) {
            due.is("mean(" + n + ", 0)", x.mean(n, 0), Math.min(99, 2 * n));
            due.is("mean(" + n + ", 1)", x.mean(n, 1), 1);
        }
        due.is("mean(61, 0)", x.mean(61, 0), NO);
        due.is("mean(-1, 0)", x.mean(-1, 0), NO);
        x.set(3, 1);
        due.is("mean(60, 0) by all 99", x.mean(60, 0), 99);
        due.is("mean(1, 0) by 33", x.mean(1, 0), 33);
        due.is("mean(1, 1) by 33", x.mean(1, 1), 16);
    }

    private static void meanLowest() {
        for (int sum = 0; sum <= 99; sum++) {
            BearMouse x = new BearMouse();
            x.set(9, sum);
            fraction("mean of " + sum, x.mean(0, 0), x.mean(0, 1), sum);
        }
        BearMouse x = new BearMouse();
        Due.fillAll(x, 99);
        fraction("mean of the most", x.mean(0, 0), x.mean(0, 1), 1584);
    }

    // ---- promises 22 to 28

    private static void print() {
        BearMouse x = new BearMouse();
        due.is("print(65535)", x.print(65535), 0);
        due.is("print(1)", x.print(1), 65535);
        due.is("print(1) again", x.print(1), 1);
        due.is("print(32768)", x.print(32768), 1);
        due.is("print(0)", x.print(0), 32768);
    }

    private static void see() {
        BearMouse x = new BearMouse();
        for (int k = 0; k < 5; k++) {
            x.walker(0, 0, k);
        }
        due.is("see(4, true, 20)", x.see(4, true, 20), 1);
        due.is("see(0, false, 0)", x.see(0, false, 0), 2);
        due.is("see(4, true, 20) again", x.see(4, true, 20), 3);
        due.is("count(2)", x.count(2), 3);
    }

    private static void seeNone() {
        BearMouse x = new BearMouse();
        due.is("where there is none", x.see(-1, true, 0), 0);
        x.walker(0, 0, 50);
        for (int n : new int[] {0, 20, 21, -1, LOW, HIGH}) {
            x.see(0, true, 0);
            hefts("a row", x, 1, 0);
            due.is("see(-1, true, " + n + ")", x.see(-1, true, n), 0);
            due.is("count(2)", x.count(2), 0);
            hefts("no row", x, 100, 0);
            x.see(0, true, 0);
            due.is("see(-1, false, " + n + ")", x.see(-1, false, n), 0);
            due.is("count(2) again", x.count(2), 0);
        }
        for (int k = 0; k < 5; k++) {
            x.see(0, true, 0);
        }
        due.is("where it is FULL", x.see(-1, true, 0), 0);
        due.is("the next is the first", x.see(0, true, 0), 1);
    }

    private static void heft() {
        BearMouse x = seen(false, 20);
        hefts("from 41 on", x, 59, 41);
        due.is("heft(0, 2)", x.heft(0, 2), -1);
        x.see(0, true, 20);
        hefts("none", x, 0, -5);
    }

    private static void can() {
        BearMouse x = new BearMouse();
        x.walker(3, 0, 0);
        x.see(0, false, 2);
        cans("from 5 on", x, 0, 5, 5);
        due.is("can(0, 2)", x.can(0, 2), -1);
        x.see(0, true, 2);
        cans("none", x, 0, 0, -5);
    }

    private static void was() {
        BearMouse x = new BearMouse();
        wass(x, 15, 99, 20, 41, 59);
        wass(x, 15, 38, 20, 0, -5);
        wass(x, 0, 0, 0, 1, 0);
        x.set(0, 77);
        wass(x, 0, 0, 0, 1, 0);
        wass(x, 0, 99, 0, 1, 99);
    }

    private static void odds() {
        BearMouse x = new BearMouse();
        x.walker(0, 0, 10);
        Due.fill(x, 20, 20, 20, 19);
        due.is("odds(0, 0)", x.odds(0, 0), 15);
        due.is("odds(0, 1)", x.odds(0, 1), 16);
        due.is("odds(0, 2)", x.odds(0, 2), NO);
        due.is("odds(1, 0)", x.odds(1, 0), NO);
    }

    private static void mean() {
        BearMouse x = new BearMouse();
        x.set(0, 24);
        due.is("mean(0, 0)", x.mean(0, 0), 3);
        due.is("mean(0, 1)", x.mean(0, 1), 2);
        due.is("mean(60, 1)", x.mean(60, 1), 1);
        due.is("mean(0, 2)", x.mean(0, 2), NO);
    }
}
