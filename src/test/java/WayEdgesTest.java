/** The edges of ways in the terms, and of promises 16 to 21, sentence by sentence. */
public final class WayEdgesTest {
    private static final int LOW = Integer.MIN_VALUE;
    private static final int HIGH = Integer.MAX_VALUE;
    private static final Due due = new Due();

    public static void main(String[] args) {
        crossing();
        asked();
        waysAndReach();
        others();
        due.end();
    }

    private static void crossing() {
        due.test(0, "CROSS of one: the fewest STEPS from a CELL of COLUMN 0 that BEARS it to one of COLUMN 3", WayEdgesTest::cross);
        due.test(0, "(-5: it can't). A WAY", WayEdgesTest::noCross);
        due.test(0, "A WAY of CROSS: a row of CELLS with so many STEPS", WayEdgesTest::wayOfCross);
        due.test(0, "(of several the first as a row): the k-th CELL.", WayEdgesTest::firstWay);
        due.test(0, "REACH of one from a CELL to a CELL: the fewest STEPS", WayEdgesTest::reachFewest);
        due.test(0, "(0: these are one, and it BEARS;", WayEdgesTest::reachItself);
        due.test(0, "-5: it can't). SOON", WayEdgesTest::noReach);
    }

    private static void asked() {
        due.test(0, "HEAVIEST of one: the greatest number (0 .. 99) by which, were it its WEIGHT, it can CROSS", WayEdgesTest::heaviest);
        due.test(0, "(-5: none). CUT", WayEdgesTest::noHeaviest);
        due.test(0, "CUT of one: the fewest CELLS (0 .. 3) by which, were STRENGTH of these 0, and did they BEAR nobody, "
            + "it can't CROSS", WayEdgesTest::cutMany);
        due.test(0, "(of several sets with so many the least as bits):", WayEdgesTest::cutLeast);
        due.test(0, "how many; which (bits; -5 each: by no so few).", WayEdgesTest::noCut);
        due.test(0, "STIRRED of one: the two NEXT CELLS by whose being STIRRED its CROSS is least,", WayEdgesTest::stirredLeast);
        due.test(0, "if that is less than it is", WayEdgesTest::stirredLess);
        due.test(0, "(-5 being more than any;", WayEdgesTest::stirredFromNone);
        due.test(0, "of several the first by the lesser, then the greater):", WayEdgesTest::stirredFirst);
        due.test(0, "100 times the lesser, and the greater", WayEdgesTest::stirredNumber);
        due.test(0, "(-5: none). MEET", WayEdgesTest::notStirred);
        due.test(0, "MEET of two: the CELL to which both can come from COLUMN 0 (each from any CELL of it that BEARS it)", WayEdgesTest::meetFromAny);
        due.test(0, "by the fewest STEPS, together", WayEdgesTest::meetFewest);
        due.test(0, "(of several the first; -5: none).", WayEdgesTest::meetFirst);
    }

    private static void waysAndReach() {
        due.test(16, "The k-th CELL (from 0 on) of a WAY; -5: there are fewer.", WayEdgesTest::way);
        due.test(16, "NONE: walker,", () -> due.refused("way(n, 0)", -1, (x, n) -> x.way(n, 0), -1, Rich.WALKERS, 5, LOW, HIGH));
        due.test(16, "k (0 .. 15).", () -> {
            due.refused("way(1, n)", -1, (x, n) -> x.way(1, n), -1, 16, LOW, HIGH);
            due.is("way(0, 15)", on(0, 1, 2, 3).way(0, 15), -5);
            due.is("way(0, 16)", on(0, 1, 2, 3).way(0, 16), -1);
            due.is("way(0, 0), it can't", on().way(0, 0), -5);
            due.is("way(0, -1), it can't", on().way(0, -1), -1);
        });
        due.test(17, "REACH; -5.", WayEdgesTest::reach);
        due.test(17, "NONE.", () -> {
            due.refused("reach(n, 0, 0)", -1, (x, n) -> x.reach(n, 0, 0), -1, Rich.WALKERS, 5, LOW, HIGH);
            due.refused("reach(0, n, 0)", -1, (x, n) -> x.reach(0, n, 0), -1, 16, LOW, HIGH);
            due.refused("reach(0, 0, n)", -1, (x, n) -> x.reach(0, 0, n), -1, 16, LOW, HIGH);
        });
    }

    private static void others() {
        due.test(18, "HEAVIEST; -5.", WayEdgesTest::heaviestNumbers);
        due.test(18, "NONE.", () -> due.refused("heaviest(n)", -1, (x, n) -> x.heaviest(n), -1, Rich.WALKERS, 5, LOW, HIGH));
        due.test(19, "CUT: what 0 how many, 1 which (bits); -5.", WayEdgesTest::cut);
        due.test(19, "NONE.", () -> {
            due.refused("cut(n, 0)", -1, (x, n) -> x.cut(n, 0), -1, Rich.WALKERS, 5, LOW, HIGH);
            due.refused("cut(1, n)", -1, (x, n) -> x.cut(1, n), -1, 2, LOW, HIGH);
        });
        due.test(20, "STIRRED; -5.", WayEdgesTest::stirred);
        due.test(20, "NONE.", () -> due.refused("stirred(n)", -1, (x, n) -> x.stirred(n), -1, Rich.WALKERS, 5, LOW, HIGH));
        due.test(21, "MEET; -5.", WayEdgesTest::meet);
        due.test(21, "NONE;", () -> {
            due.refused("meet(n, 0)", -1, (x, n) -> x.meet(n, 0), -1, Rich.WALKERS, 5, LOW, HIGH);
            due.refused("meet(0, n)", -1, (x, n) -> x.meet(0, n), -1, Rich.WALKERS, 5, LOW, HIGH);
            due.refused("meet(n, n)", -1, (x, n) -> x.meet(n, n), -1, Rich.WALKERS);
        });
        due.test(21, "BAD: one is both.", () -> due.refused("meet(n, n)", -2, (x, n) -> x.meet(n, n), 0, 1, 2, 3));
    }

    /** A WALKER (0) and a SHREW (1) of WEIGHT 10; CELLS that are told BEAR them, the others do not. */
    private static BearMouse on(int... cells) {
        BearMouse x = new BearMouse();
        x.walker(0, 0, 10);
        x.walker(1, 0, 10);
        for (int cell : cells) {
            x.set(cell, 10);
        }
        return x;
    }

    private static BearMouse onAllBut(int... cells) {
        BearMouse x = on();
        Due.fillAll(x, 10);
        for (int cell : cells) {
            x.set(cell, 9);
        }
        return x;
    }

    private static void wayIs(BearMouse x, int walker, int... cells) {
        due.is("CROSS", x.of(walker, 3), cells.length == 0 ? -5 : cells.length - 1);
        for (int k = 0; k < 16; k++) {
            due.is("way(" + walker + ", " + k + ")", x.way(walker, k), k < cells.length ? cells[k] : -5);
        }
    }

    // ---- CROSS, WAY, REACH

    private static void cross() {
        due.is("along ROW 0", on(0, 1, 2, 3).of(0, 3), 3);
        due.is("along ROW 3", on(12, 13, 14, 15).of(0, 3), 3);
        due.is("from ROW 0 to ROW 3", on(0, 1, 5, 9, 13, 14, 15).of(0, 3), 6);
        due.is("from ROW 3 to ROW 0", on(12, 13, 9, 5, 1, 2, 3).of(0, 3), 6);
        due.is("the fewest of two", on(0, 1, 5, 6, 7, 8, 9, 10, 11).of(0, 3), 3);
        due.is("by all", onAllBut().of(0, 3), 3);
        due.is("a SHREW by all", onAllBut().of(1, 3), 2);
        due.is("a SHREW by three", on(4, 6, 7).of(1, 3), 2);
        due.is("a SHREW by a COLUMN", on(0, 8, 10, 2, 3).of(1, 3), 2);
        due.is("a SHREW in three", on(0, 1, 9, 11).of(1, 3), 3);
    }

    private static void noCross() {
        due.is("by none", on().of(0, 3), -5);
        due.is("not from COLUMN 0", on(1, 2, 3).of(0, 3), -5);
        due.is("not to COLUMN 3", on(0, 1, 2).of(0, 3), -5);
        due.is("not over COLUMN 1", on(0, 2, 3).of(0, 3), -5);
        due.is("not across", on(0, 1, 6, 7).of(0, 3), -5);
        due.is("not round the edge", on(0, 4, 8, 12, 3, 7, 11, 15).of(0, 3), -5);
        due.is("a SHREW not 3 at once", on(0, 4, 8, 12, 3, 7, 11, 15).of(1, 3), -5);
        due.is("a SHREW not across", on(0, 5, 10, 15).of(1, 3), -5);
        due.is("too little", onAllBut(1, 5, 9, 13).of(0, 3), -5);
        due.is("but a SHREW", onAllBut(1, 5, 9, 13).of(1, 3), 2);
    }

    private static void wayOfCross() {
        wayIs(on(0, 1, 2, 3), 0, 0, 1, 2, 3);
        wayIs(on(0, 1, 5, 9, 13, 14, 15), 0, 0, 1, 5, 9, 13, 14, 15);
        wayIs(on(12, 13, 9, 5, 1, 2, 3), 0, 12, 13, 9, 5, 1, 2, 3);
        wayIs(on(0, 1, 5, 9, 13, 14, 15), 1, 0, 1, 5, 13, 15);
        wayIs(on(1, 2, 3), 0);
    }

    private static void firstWay() {
        wayIs(onAllBut(), 0, 0, 1, 2, 3);
        wayIs(onAllBut(), 1, 0, 1, 3);
        wayIs(onAllBut(1), 1, 0, 2, 3);
        wayIs(onAllBut(0), 0, 4, 5, 6, 7);
        wayIs(onAllBut(0), 1, 4, 5, 7);
        wayIs(onAllBut(3, 7, 11), 0, 12, 13, 14, 15);
        wayIs(on(4, 5, 1, 9, 2, 10, 3, 11), 0, 4, 5, 1, 2, 3);
        wayIs(on(0, 1, 2, 8, 9, 10, 11), 0, 8, 9, 10, 11);
        wayIs(on(8, 9, 10, 11, 5, 6, 7), 0, 8, 9, 10, 11);
        wayIs(on(0, 4, 8, 12, 5, 9, 13, 6, 7), 0, 4, 5, 6, 7);
        // A CELL that is as near the far side, and comes first, but is a LEAP apart, is not on a WALKER's WAY.
        wayIs(on(8, 9, 10, 2, 3, 6, 7), 0, 8, 9, 10, 6, 7);
        wayIs(on(8, 9, 1, 2, 3, 5, 6, 7), 0, 8, 9, 5, 6, 7);
    }

    private static void reachFewest() {
        BearMouse all = onAllBut();
        for (int from = 0; from < 16; from++) {
            for (int to = 0; to < 16; to++) {
                int rows = Math.abs(from / 4 - to / 4);
                int columns = Math.abs(from % 4 - to % 4);
                String call = ", " + from + ", " + to + ")";
                due.is("reach(0" + call, all.reach(0, from, to), rows + columns);
                due.is("reach(1" + call, all.reach(1, from, to), (rows + 1) / 2 + (columns + 1) / 2);
            }
        }
        due.is("all around", on(0, 1, 2, 3, 7, 11, 15, 14, 13, 12, 8).reach(0, 0, 8), 10);
        due.is("all around by LEAPS", on(0, 1, 2, 3, 7, 11, 15, 14, 13, 12).reach(1, 0, 12), 6);
        due.is("round one that does not BEAR it", on(0, 4, 8, 9, 10, 6, 2, 3, 7).reach(0, 0, 7), 6);
        due.is("a row of 9 STEPS", on(0, 1, 2, 3, 7, 11, 10, 9, 8, 12).reach(0, 0, 12), 9);
    }

    private static void reachItself() {
        BearMouse x = on(0, 5, 15);
        for (int cell = 0; cell < 16; cell++) {
            boolean bears = cell == 0 || cell == 5 || cell == 15;
            due.is("reach(0, " + cell + ", " + cell + ")", x.reach(0, cell, cell), bears ? 0 : -5);
        }
        Due.brew(x, "spoon 5");
        due.is("on the SPOON", x.reach(0, 5, 5), -5);
    }

    private static void noReach() {
        due.is("from one that does not BEAR it", on(1).reach(0, 0, 1), -5);
        due.is("to one that does not", on(1).reach(0, 1, 0), -5);
        due.is("over one that does not", on(0, 2).reach(0, 0, 2), -5);
        due.is("across", on(0, 5).reach(0, 0, 5), -5);
        due.is("round the edge", on(3, 4).reach(0, 3, 4), -5);
        due.is("round the edge by a LEAP", on(3, 5).reach(1, 3, 5), -5);
        due.is("3 apart", on(0, 3).reach(1, 0, 3), -5);
    }

    // ---- HEAVIEST, CUT

    private static void heaviest() {
        for (int n : new int[] {0, 1, 50, 98, 99}) {
            BearMouse x = new BearMouse();
            x.walker(0, 0, 40);
            Due.fill(x, n, 99, n, 99);
            due.is("heaviest(0) by " + n, x.heaviest(0), n);
            due.is("its WEIGHT", x.of(0, 2), 40);
        }
        BearMouse x = new BearMouse();
        x.walker(2, 9, 40);
        x.walker(4, 9, 40);
        Due.fill(x, 49, 49, 49, 49);
        due.is("99 as HEN by 49", x.heaviest(0), 99);
        due.is("58 as BEETLE by 49", x.heaviest(1), 58);
        Due.fill(x, 48, 48, 48, 48);
        due.is("97 as HEN by 48", x.heaviest(0), 97);
        Due.fill(x, 90, 90, 90, 90);
        due.is("99 as BEETLE by 90", x.heaviest(1), 99);
        Due.fill(x, 99, 99, 99, 99);
        due.is("no more than 99 as HEN", x.heaviest(0), 99);
        due.is("no more than 99 as BEETLE", x.heaviest(1), 99);
    }

    private static void noHeaviest() {
        BearMouse x = new BearMouse();
        x.walker(3, 9, 0);
        x.walker(3, 0, 0);
        Due.fillAll(x, 8);
        due.is("not even 0", x.heaviest(0), -5);
        due.is("8", x.heaviest(1), 8);
        Due.fill(x, 9, 9, 9, 9);
        due.is("0 and no more", x.heaviest(0), 0);
    }

    private static void cutIs(BearMouse x, int walker, int many, int... which) {
        int bits = many < 0 ? many : 0;
        for (int cell : which) {
            bits |= 1 << cell;
        }
        due.is("cut(" + walker + ", 0)", x.cut(walker, 0), many);
        due.is("cut(" + walker + ", 1)", x.cut(walker, 1), bits);
    }

    private static void cutMany() {
        cutIs(on(0, 1, 2), 0, 0);
        cutIs(on(0, 1, 2, 3), 0, 1, 0);
        cutIs(on(0, 1, 3, 12, 15), 1, 1, 0);
        cutIs(on(0, 1, 2, 3, 8, 9, 10, 11), 0, 2, 0, 8);
        cutIs(onAllBut(12, 13, 14, 15), 0, 3, 0, 4, 8);
        cutIs(onAllBut(1), 0, 3, 4, 8, 12);
        BearMouse light = new BearMouse();
        light.walker(0, 0, 0);
        Due.brew(light, "spoon 4");
        cutIs(light, 0, 3, 0, 8, 12);
    }

    private static void cutLeast() {
        cutIs(on(4, 5, 6, 7), 0, 1, 4);
        cutIs(on(4, 8, 9, 10, 11), 0, 1, 8);
        cutIs(on(4, 8, 5, 6, 7), 0, 1, 4);
        cutIs(on(0, 4, 1, 5, 6, 7), 0, 1, 5);
        cutIs(on(4, 5, 8, 9, 6, 7, 11), 0, 1, 5);
        cutIs(on(4, 5, 8, 9, 10, 6, 7), 0, 1, 6);
        cutIs(on(0, 4, 8, 1, 5, 9, 2, 6, 3, 7), 0, 2, 0, 5);
        cutIs(on(0, 4, 8, 1, 5, 9, 2, 6, 10, 3, 7), 0, 2, 1, 6);
        cutIs(on(0, 4, 8, 12, 1, 2, 3, 13, 14, 15), 0, 2, 0, 12);
        cutIs(onAllBut(15), 0, 3, 0, 5, 10);
    }

    private static void noCut() {
        cutIs(onAllBut(), 0, -5);
        cutIs(onAllBut(), 1, -5);
        cutIs(onAllBut(12, 13, 14, 15), 1, 3, 0, 4, 8);
        BearMouse light = new BearMouse();
        light.walker(4, 9, 9);
        cutIs(light, 0, -5);
    }

    private static void cut() {
        cutIs(on(0, 1), 0, 0);
        cutIs(on(12, 13, 14, 15), 0, 1, 12);
        cutIs(onAllBut(), 0, -5);
        BearMouse x = on(12, 13, 14, 15);
        due.is("cut(0, 2)", x.cut(0, 2), -1);
        due.is("cut(0, -1)", x.cut(0, -1), -1);
    }

    // ---- STIRRED, MEET

    private static void stirredLeast() {
        BearMouse x = on(0, 1, 5, 9, 13, 14, 15, 2, 7);
        due.is("CROSS", x.of(0, 3), 6);
        due.is("3 ahead of 4", x.stirred(0), 307);
        x.stir(3, 7);
        due.is("CROSS then", x.of(0, 3), 3);
        due.is("3 ahead of 5", on(4, 5, 9, 13, 14, 15, 11, 6, 3).stirred(0), 307);
        due.is("5 by none of 4", on(0, 1, 5, 9, 13, 14, 11).stirred(0), 1014);
    }

    private static void stirredLess() {
        due.is("3 can't be less", on(0, 1, 2, 3, 4).stirred(0), -5);
        due.is("3 can't be less by all", onAllBut().stirred(0), -5);
        due.is("a SHREW's 2 can't be less", on(0, 1, 3, 4).stirred(1), -5);
        due.is("a SHREW's 3 can't be less here", on(0, 2, 10, 11).stirred(1), -5);
        due.is("4 becomes 3 by ROW 1", on(0, 1, 5, 6, 7).stirred(0), 4);
        due.is("4 becomes 3 by ROW 3", on(8, 9, 13, 14, 15).stirred(0), 812);
    }

    private static void stirredFromNone() {
        due.is("3 is less than none", on(0, 1, 2, 7).stirred(0), 307);
        due.is("a SHREW's 2 is less than none", on(0, 1, 7).stirred(1), 307);
        due.is("6 is less than none", on(0, 1, 5, 9, 13, 14, 3, 11).stirred(0), 1014);
        due.is("none stays none", on(0, 4, 8, 12).stirred(1), -5);
    }

    private static void stirredFirst() {
        due.is("by the lesser", on(0, 1, 3, 6, 8, 9, 11, 14).stirred(0), 206);
        due.is("by the lesser, around one CELL", on(4, 5, 7, 10, 2).stirred(0), 206);
        due.is("by the lesser, both 5", on(0, 1, 5, 9, 10, 14, 15, 3).stirred(0), 4);
        due.is("by the greater", on(0, 1, 6, 9, 10, 11).stirred(0), 506);
        due.is("by the greater, a SHREW", on(1, 2, 3, 4).stirred(1), 1);
    }

    private static void stirredNumber() {
        due.is("0 and 1", on(1, 2, 3, 4).stirred(1), 1);
        due.is("3 and 7", on(0, 1, 2, 7).stirred(0), 307);
        due.is("10 and 14", on(12, 13, 15, 10).stirred(0), 1014);
        due.is("14 and 15", on(12, 13, 14).stirred(1), 1415);
    }

    private static void notStirred() {
        due.is("none BEARS it", on().stirred(0), -5);
        due.is("three BEAR it", on(0, 1, 2).stirred(0), -5);
        BearMouse x = on(0, 1, 3, 6);
        due.is("without a SPOON", x.stirred(0), 206);
        Due.brew(x, "spoon 2");
        due.is("the SPOON is not stirred away", x.stirred(0), -5);
    }

    private static void stirred() {
        due.is("none", on().stirred(0), -5);
        BearMouse x = on(0, 1, 2, 7);
        due.is("stirred(0)", x.stirred(0), 307);
        due.is("all is as it was", x.at(7, 0) * 100 + x.at(3, 0), 1000);
        x.stir(3, 7);
        due.is("stirred(0) then", x.stirred(0), -5);
    }

    /** A HEN (0; it NEEDS 15 in ROW 0, else 30) and a WALKER (1; it NEEDS 20). */
    private static BearMouse two(int... strengths) {
        BearMouse x = new BearMouse();
        x.walker(2, 0, 30);
        x.walker(0, 0, 20);
        Due.fill(x, strengths);
        return x;
    }

    private static void meetIs(BearMouse x, int want) {
        due.is("meet(0, 1)", x.meet(0, 1), want);
        due.is("meet(1, 0)", x.meet(1, 0), want);
    }

    private static void meetFromAny() {
        meetIs(two(15, 20, 0, 0, 20, 20), 1);
        meetIs(two(15, 20, 0, 0, 0, 20), -5);
        meetIs(two(0, 20, 0, 0, 20, 20), -5);
        meetIs(two(15, 20, 0, 0, 0, 20, 0, 0, 0, 20, 0, 0, 20, 20), 1);
        meetIs(two(15, 15, 15, 20, 0, 0, 0, 20, 0, 0, 0, 20, 20, 20, 20, 20), 3);
    }

    private static void meetFewest() {
        meetIs(two(15, 15, 20, 0, 20, 30, 20), 5);
        meetIs(two(15, 20, 0, 0, 30, 20), 4);
        meetIs(two(15, 20, 0, 0, 0, 30, 0, 0, 0, 30, 0, 0, 20, 20), 1);
    }

    private static void meetFirst() {
        meetIs(two(15, 20, 0, 0, 20, 30), 1);
        meetIs(two(15, 15, 15, 20, 20, 20, 20, 30), 3);
        meetIs(two(20, 0, 0, 0, 30), 0);
        meetIs(two(0, 0, 0, 0, 30, 0, 0, 0, 30, 0, 0, 0, 30), 4);
        meetIs(two(15, 0, 0, 0, 20), -5);
        meetIs(two(), -5);
        BearMouse x = two(20, 0, 0, 0, 30);
        Due.brew(x, "spoon 0");
        meetIs(x, 4);
    }

    // ---- promises 16 to 21

    private static void way() {
        wayIs(on(12, 13, 14, 15), 0, 12, 13, 14, 15);
        wayIs(on(0, 2, 3), 1, 0, 2, 3);
        wayIs(on(0, 2, 3), 0);
    }

    private static void reach() {
        BearMouse x = on(0, 1, 2);
        due.is("reach(0, 0, 2)", x.reach(0, 0, 2), 2);
        due.is("reach(1, 2, 0)", x.reach(1, 2, 0), 1);
        due.is("reach(0, 0, 3)", x.reach(0, 0, 3), -5);
        due.is("reach(0, 15, 15)", x.reach(0, 15, 15), -5);
    }

    private static void heaviestNumbers() {
        BearMouse x = on(0, 1, 2, 3);
        due.is("heaviest(0)", x.heaviest(0), 10);
        Due.fillAll(x, 99);
        due.is("heaviest(0) by 99", x.heaviest(0), 99);
        Due.fillAll(x, 0);
        due.is("heaviest(0) by 0", x.heaviest(0), 0);
        x.walker(3, 1, 0);
        due.is("heaviest(2)", x.heaviest(2), -5);
    }

    private static void meet() {
        due.is("none", on().meet(0, 1), -5);
        due.is("the near side", onAllBut().meet(0, 1), 0);
        due.is("the last CELL of it", on(12).meet(0, 1), 12);
        BearMouse x = two(15, 15, 15, 20, 20, 20, 20, 20);
        due.is("the last CELL of ROW 0", x.meet(1, 0), 3);
    }
}
