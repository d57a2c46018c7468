import java.util.function.IntBinaryOperator;

/** The edges of CELLS, WALKERS and NEEDS in the terms, and of promises 1 to 9, sentence by sentence. */
public final class CellEdgesTest {
    private static final int LOW = Integer.MIN_VALUE;
    private static final int HIGH = Integer.MAX_VALUE;
    private static final Due due = new Due();

    public static void main(String[] args) {
        cells();
        walkers();
        needs();
        promises1To3();
        promises4To7();
        promises8And9();
        due.end();
    }

    private static void cells() {
        due.test(0, "CELLS 0 .. 15", CellEdgesTest::cellNumbers);
        due.test(0, "CELL c is in ROW c by 4 (cut)", CellEdgesTest::rows);
        due.test(0, "COLUMN c modulo 4", CellEdgesTest::columns);
        due.test(0, "Two are NEXT, if they are in one ROW, in COLUMNS 1 apart, or in one COLUMN, in ROWS 1 apart;",
            CellEdgesTest::next);
        due.test(0, "they are a LEAP apart, if it is 2 apart likewise.", CellEdgesTest::leap);
        due.test(0, "Each has a STRENGTH (0 .. 99;", CellEdgesTest::strengths);
        due.test(0, "0 at first). WALKERS", CellEdgesTest::strengthAtFirst);
        due.test(0, "To STIR two CELLS that are NEXT: each has the other's STRENGTH.", CellEdgesTest::stirred);
        due.test(0, "MILK on a CELL: its STRENGTH is MILK less (0 at least).", CellEdgesTest::milked);
    }

    private static void walkers() {
        due.test(0, "WALKERS 0 .. 4, as they come", CellEdgesTest::walkerNumbers);
        due.test(0, "are of KINDS: 0 WALKER; 1 SHREW, 2 HEN, 3 FERRET under WALKER; 4 BEETLE under SHREW; "
            + "5 BISHOP under HEN; 6 TOLD under FERRET", CellEdgesTest::kinds);
        due.test(0, "with a number v (0 .. 9)", CellEdgesTest::v);
        due.test(0, "a WEIGHT (0 .. 99)", CellEdgesTest::weight);
        due.test(0, "MINUTE: 0 at first.", CellEdgesTest::minuteAtFirst);
    }

    private static void needs() {
        due.test(0, "NEEDS of a WALKER at a CELL: WALKER, SHREW: WEIGHT.", CellEdgesTest::needsWeight);
        due.test(0, "HEN: the half (cut) of WEIGHT in ROW 0, else WEIGHT.", CellEdgesTest::needsHen);
        due.test(0, "FERRET: WEIGHT and v.", CellEdgesTest::needsFerret);
        due.test(0, "BEETLE: WEIGHT less v (0 at least).", CellEdgesTest::needsBeetle);
        due.test(0, "BISHOP: twice what it is as HEN.", CellEdgesTest::needsBishop);
        due.test(0, "TOLD: as FERRET, and its LINE", CellEdgesTest::needsTold);
        due.test(0, "its LINE (four numbers 0 .. 9;", CellEdgesTest::lineNumbers);
        due.test(0, "0 at first) at the ROW more.", CellEdgesTest::lineAtFirst);
        due.test(0, "A CELL BEARS it, if it is not the SPOON,", CellEdgesTest::bearsOnSpoon);
        due.test(0, "and STRENGTH is NEEDS or more.", CellEdgesTest::bearsByStrength);
        due.test(0, "STEPS: to a CELL NEXT; SHREW, BEETLE: also to one that is a LEAP apart;", CellEdgesTest::steps);
        due.test(0, "only on CELLS that BEAR it.", CellEdgesTest::stepsOnBearers);
    }

    private static void promises1To3() {
        due.test(1, "No WALKERS, no BREW.", CellEdgesTest::newObject);
        due.test(2, "A WALKER: its number.", CellEdgesTest::walker);
        due.test(2, "NONE: kind;", () -> due.refused("walker(n, 0, 0)", -1, (x, n) -> x.walker(n, 0, 0), -1, 7, LOW, HIGH));
        due.test(2, "BAD: v,", () -> due.refused("walker(0, n, 0)", -2, (x, n) -> x.walker(0, n, 0), -1, 10, LOW, HIGH));
        due.test(2, "weight;", () -> due.refused("walker(0, 0, n)", -2, (x, n) -> x.walker(0, 0, n), -1, 100, LOW, HIGH));
        due.test(2, "FULL: 5.", () -> due.unchangedFull("walker(0, 0, 0)", -4, x -> x.walker(0, 0, 0)));
        due.test(3, "Of a WALKER what 0 KIND, 1 v, 2 WEIGHT, 3 CROSS (-5), 10 and c NEEDS at CELL c.", CellEdgesTest::of);
        due.test(3, "NONE.", CellEdgesTest::noneOfOf);
    }

    private static void promises4To7() {
        due.test(4, "Of a CELL what 0 STRENGTH, 1 GROWS, 2 who is BORNE by it (bits).", CellEdgesTest::at);
        due.test(4, "-1001: NONE.", CellEdgesTest::noneOfAt);
        due.test(5, "STRENGTH of a CELL becomes n (0 .. 99): what it was.", CellEdgesTest::set);
        due.test(5, "NONE;", () -> due.refused("set(n, 1)", -1, (x, n) -> x.set(n, 1), -1, 16, LOW, HIGH));
        due.test(5, "BAD.", () -> due.refused("set(2, n)", -2, (x, n) -> x.set(2, n), -1, 100, LOW, HIGH));
        due.test(6, "WEIGHT of a WALKER becomes n (0 .. 99): what it was.", CellEdgesTest::weigh);
        due.test(6, "NONE;", () -> due.refused("weigh(n, 1)", -1, (x, n) -> x.weigh(n, 1), -1, Rich.WALKERS, 5, LOW, HIGH));
        due.test(6, "BAD.", () -> due.refused("weigh(1, n)", -2, (x, n) -> x.weigh(1, n), -1, 100, LOW, HIGH));
        due.test(7, "The LINE of a TOLD one becomes n (0 .. 9) for ROW part: what it was.", CellEdgesTest::line);
        due.test(7, "NONE: walker,", () -> due.refused("line(n, 0, 1)", -1, (x, n) -> x.line(n, 0, 1), -1, 4, 5, LOW, HIGH));
        due.test(7, "part;", () -> due.refused("line(0, n, 1)", -1, (x, n) -> x.line(0, n, 1), -1, 4, LOW, HIGH));
        due.test(7, "BAD;", () -> due.refused("line(0, 1, n)", -2, (x, n) -> x.line(0, 1, n), -1, 10, LOW, HIGH));
        due.test(7, "STATE: another KIND.", CellEdgesTest::lineOfAnotherKind);
    }

    private static void promises8And9() {
        due.test(8, "MILK on a CELL: its STRENGTH then.", CellEdgesTest::milk);
        due.test(8, "NONE.", () -> due.refused("milk(n)", -1, (x, n) -> x.milk(n), -1, 16, LOW, HIGH));
        due.test(9, "Two CELLS are STIRRED: STRENGTH of the first then.", CellEdgesTest::stir);
        due.test(9, "NONE;", () -> {
            due.refused("stir(n, 3)", -1, (x, n) -> x.stir(n, 3), -1, 16, LOW, HIGH);
            due.refused("stir(12, n)", -1, (x, n) -> x.stir(12, n), -1, 16, LOW, HIGH);
            due.refused("stir(0, n)", -1, (x, n) -> x.stir(0, n), -1, -4);
            due.refused("stir(n, n)", -1, (x, n) -> x.stir(n, n), -1, 16);
        });
        due.test(9, "BAD: they are not NEXT.", CellEdgesTest::stirNotNext);
    }

    // ---- CELLS

    private static void cellNumbers() {
        for (int cell = 0; cell <= 15; cell++) {
            BearMouse x = new BearMouse();
            x.walker(0, 0, 0);
            String call = "CELL " + cell;
            due.is(call + ": set", x.set(cell, 20), 0);
            due.is(call + ": at", x.at(cell, 0), 20);
            due.is(call + ": milk", x.milk(cell), 10);
            due.is(call + ": on", x.on(0, 10 + cell), 10);
            due.is(call + ": of", x.of(0, 10 + cell), 0);
            due.is(call + ": was", x.was(cell, 30, 0, 1), 30);
            due.is(call + ": reach", x.reach(0, cell, cell), 0);
            due.is(call + ": afternoon by 1", x.afternoon(1, cell), 1);
            due.is(call + ": afternoon by 2", x.afternoon(2, cell), 2);
            due.is(call + ": book", x.book(cell, 5), 1);
            due.is(call + ": stir", x.stir(cell, cell < 12 ? cell + 4 : cell - 4), 0);
        }
        for (int cell : new int[] {-1, 16}) {
            BearMouse x = new BearMouse();
            x.walker(0, 0, 0);
            due.is("set, CELL " + cell, x.set(cell, 1), -1);
            due.is("at, CELL " + cell, x.at(cell, 0), -1001);
            due.is("milk, CELL " + cell, x.milk(cell), -1);
            due.is("on, CELL " + cell, x.on(0, 10 + cell), -1);
            due.is("of, CELL " + cell, x.of(0, 10 + cell), -1);
            due.is("was, CELL " + cell, x.was(cell, 30, 0, 1), -1);
            due.is("reach, CELL " + cell, x.reach(0, cell, cell), -1);
            due.is("afternoon by 1, CELL " + cell, x.afternoon(1, cell), -1);
            due.is("afternoon by 2, CELL " + cell, x.afternoon(2, cell), -1);
            due.is("stir, CELL " + cell, x.stir(cell, cell < 0 ? 0 : 15), -1);
        }
        due.is("book, CELL 16", new BearMouse().book(16, 5), -1);
        due.is("book, CELL -2", new BearMouse().book(-2, 5), -1);
    }

    private static void each(String name, int[] want, IntBinaryOperator got) {
        for (int cell = 0; cell < 16; cell++) {
            due.is(name + " at CELL " + cell, got.applyAsInt(cell, 0), want[cell]);
        }
    }

    private static void rows() {
        BearMouse x = new BearMouse();
        x.walker(6, 0, 0);
        for (int row = 0; row < 4; row++) {
            x.line(0, row, row);
        }
        int[] want = {0, 0, 0, 0, 1, 1, 1, 1, 2, 2, 2, 2, 3, 3, 3, 3};
        each("ROW by the LINE", want, (cell, none) -> x.of(0, 10 + cell));
        Due.brew(x, "thick 1 r=1;thick 2 r=2;thick 3 r=3");
        each("ROW by a TEST", want, (cell, none) -> x.at(cell, 1) - 2);
    }

    private static void columns() {
        BearMouse x = new BearMouse();
        Due.brew(x, "thick 1 x=1;thick 2 x=2;thick 3 x=3");
        int[] want = {0, 1, 2, 3, 0, 1, 2, 3, 0, 1, 2, 3, 0, 1, 2, 3};
        each("COLUMN by a TEST", want, (cell, none) -> x.at(cell, 1) - 2);
        for (int from = 0; from < 16; from++) {
            BearMouse y = new BearMouse();
            y.walker(0, 0, 10);
            for (int cell = from; cell < Math.min(from + 4, 16); cell++) {
                y.set(cell, 10);
            }
            due.is("crossing by four CELLS from " + from + " on", y.of(0, 3), from % 4 == 0 ? 3 : -5);
        }
    }

    private static boolean apart(int a, int b, int far) {
        boolean inRow = a / 4 == b / 4 && Math.abs(a % 4 - b % 4) == far;
        boolean inColumn = a % 4 == b % 4 && Math.abs(a / 4 - b / 4) == far;
        return inRow || inColumn;
    }

    private static void next() {
        int pairs = 0;
        for (int a = 0; a < 16; a++) {
            for (int b = 0; b < 16; b++) {
                BearMouse x = new BearMouse();
                x.set(a, 10);
                x.set(b, 20);
                due.is("stir(" + a + ", " + b + ")", x.stir(a, b), apart(a, b, 1) ? 20 : -2);
                pairs += apart(a, b, 1) ? 1 : 0;
            }
        }
        due.is("pairs that are NEXT", pairs, 48);
    }

    private static void leap() {
        for (int a = 0; a < 16; a++) {
            for (int b = 0; b < 16; b++) {
                BearMouse x = new BearMouse();
                x.walker(1, 0, 10);
                x.set(a, 10);
                x.set(b, 10);
                int want = a == b ? 0 : apart(a, b, 1) || apart(a, b, 2) ? 1 : -5;
                due.is("reach(0, " + a + ", " + b + ")", x.reach(0, a, b), want);
            }
        }
    }

    private static void strengths() {
        BearMouse x = new BearMouse();
        for (int n = 1; n <= 99; n++) {
            due.is("set(6, " + n + ")", x.set(6, n), n - 1);
            due.is("at(6, 0)", x.at(6, 0), n);
        }
        due.is("set(6, 0)", x.set(6, 0), 99);
        due.is("set(6, 100)", x.set(6, 100), -2);
        due.is("set(6, -1)", x.set(6, -1), -2);
        due.is("at(6, 0) in the end", x.at(6, 0), 0);
    }

    private static void strengthAtFirst() {
        BearMouse x = new BearMouse();
        for (int cell = 0; cell < 16; cell++) {
            due.is("at(" + cell + ", 0)", x.at(cell, 0), 0);
        }
    }

    private static void stirred() {
        BearMouse x = new BearMouse();
        Due.fill(x, 0, 99, 5, 6, 7);
        x.stir(0, 1);
        due.is("the first has the other's", x.at(0, 0), 99);
        due.is("the other has the first's", x.at(1, 0), 0);
        x.stir(4, 0);
        due.is("the first has the other's again", x.at(4, 0), 99);
        due.is("the other has the first's again", x.at(0, 0), 7);
        due.is("no third is stirred", x.at(2, 0) * 100 + x.at(3, 0), 506);
    }

    private static void milked() {
        int[] without = {0, 0, 0, 1, 89};
        int[] strengths = {0, 9, 10, 11, 99};
        BearMouse x = new BearMouse();
        for (int k = 0; k < strengths.length; k++) {
            x.set(7, strengths[k]);
            due.is("milk(7) on " + strengths[k], x.milk(7), without[k]);
            due.is("at(7, 0)", x.at(7, 0), without[k]);
        }
        Due.brew(x, "milk 99");
        x.set(7, 99);
        due.is("milk(7) of 99 on 99", x.milk(7), 0);
        x.set(7, 98);
        due.is("milk(7) of 99 on 98", x.milk(7), 0);
        Due.brew(x, "milk 0");
        x.set(7, 98);
        due.is("milk(7) of 0 on 98", x.milk(7), 98);
    }

    // ---- WALKERS

    private static void walkerNumbers() {
        BearMouse x = new BearMouse();
        for (int k = 0; k <= 4; k++) {
            due.is("of(" + k + ", 2) ahead", x.of(k, 2), -1);
            due.is("walker " + k, x.walker(0, 0, 10 + k), k);
            due.is("of(" + k + ", 2)", x.of(k, 2), 10 + k);
        }
        due.is("a sixth", x.walker(0, 0, 15), -4);
        due.is("of(5, 2)", x.of(5, 2), -1);
        due.is("of(-1, 2)", x.of(-1, 2), -1);
    }

    private static void kinds() {
        int[] above = {-1, 0, 0, 0, 1, 2, 3};
        for (int kind = 0; kind <= 6; kind++) {
            BearMouse x = new BearMouse();
            due.is("walker(" + kind + ", ..)", x.walker(kind, 0, 0), 0);
            due.is("its KIND", x.of(0, 0), kind);
            for (int k = 0; k <= 6; k++) {
                boolean under = k == kind || k == above[kind] || above[kind] >= 0 && k == above[above[kind]];
                due.is("KIND " + kind + " taken for " + k, x.taken(0, k), under ? kind : -12);
            }
        }
        due.is("walker(7, ..)", new BearMouse().walker(7, 0, 0), -1);
        due.is("walker(-1, ..)", new BearMouse().walker(-1, 0, 0), -1);
    }

    private static void v() {
        for (int v = 0; v <= 9; v++) {
            BearMouse x = new BearMouse();
            due.is("walker(3, " + v + ", 0)", x.walker(3, v, 0), 0);
            due.is("of(0, 1)", x.of(0, 1), v);
            due.is("of(0, 10)", x.of(0, 10), v);
        }
        due.is("walker(3, 10, 0)", new BearMouse().walker(3, 10, 0), -2);
        due.is("walker(3, -1, 0)", new BearMouse().walker(3, -1, 0), -2);
    }

    private static void weight() {
        BearMouse y = new BearMouse();
        y.walker(0, 0, 0);
        for (int weight = 0; weight <= 99; weight++) {
            BearMouse x = new BearMouse();
            due.is("walker(0, 0, " + weight + ")", x.walker(0, 0, weight), 0);
            due.is("of(0, 2)", x.of(0, 2), weight);
            due.is("weigh(0, " + weight + ")", y.weigh(0, weight), Math.max(0, weight - 1));
        }
        due.is("walker(0, 0, 100)", new BearMouse().walker(0, 0, 100), -2);
        due.is("walker(0, 0, -1)", new BearMouse().walker(0, 0, -1), -2);
        due.is("weigh(0, 100)", y.weigh(0, 100), -2);
        due.is("weigh(0, -1)", y.weigh(0, -1), -2);
        due.is("of(0, 2) in the end", y.of(0, 2), 99);
    }

    private static void minuteAtFirst() {
        BearMouse x = new BearMouse();
        due.is("told(0)", x.told(0), 0);
        Due.brew(x, "thick 7 m=0");
        due.is("at(0, 1)", x.at(0, 1), 9);
    }

    // ---- NEEDS

    /** NEEDS in ROW 0, where it is the same in all CELLS, and in each other ROW. */
    private static void needs(int kind, int v, int weight, int inRow0, int else0) {
        BearMouse x = new BearMouse();
        x.walker(kind, v, weight);
        for (int cell = 0; cell < 16; cell++) {
            String call = "KIND " + kind + ", v " + v + ", WEIGHT " + weight + ": NEEDS at " + cell;
            due.is(call, x.of(0, 10 + cell), cell < 4 ? inRow0 : else0);
        }
    }

    private static void needsWeight() {
        for (int kind = 0; kind <= 1; kind++) {
            needs(kind, 0, 0, 0, 0);
            needs(kind, 9, 0, 0, 0);
            needs(kind, 9, 31, 31, 31);
            needs(kind, 9, 99, 99, 99);
        }
    }

    private static void needsHen() {
        needs(2, 9, 0, 0, 0);
        needs(2, 0, 1, 0, 1);
        needs(2, 9, 2, 1, 2);
        needs(2, 0, 98, 49, 98);
        needs(2, 9, 99, 49, 99);
    }

    private static void needsFerret() {
        needs(3, 0, 0, 0, 0);
        needs(3, 9, 0, 9, 9);
        needs(3, 0, 99, 99, 99);
        needs(3, 9, 99, 108, 108);
    }

    private static void needsBeetle() {
        needs(4, 0, 0, 0, 0);
        needs(4, 9, 0, 0, 0);
        needs(4, 9, 8, 0, 0);
        needs(4, 9, 9, 0, 0);
        needs(4, 9, 10, 1, 1);
        needs(4, 0, 99, 99, 99);
        needs(4, 9, 99, 90, 90);
    }

    private static void needsBishop() {
        needs(5, 9, 0, 0, 0);
        needs(5, 0, 1, 0, 2);
        needs(5, 9, 2, 2, 4);
        needs(5, 9, 99, 98, 198);
    }

    private static void needsTold() {
        needs(6, 0, 0, 0, 0);
        needs(6, 9, 0, 9, 9);
        needs(6, 9, 99, 108, 108);
        BearMouse x = new BearMouse();
        x.walker(6, 9, 99);
        x.line(0, 0, 9);
        x.line(0, 3, 1);
        int[] want = {117, 117, 117, 117, 108, 108, 108, 108, 108, 108, 108, 108, 109, 109, 109, 109};
        each("NEEDS", want, (cell, none) -> x.of(0, 10 + cell));
    }

    private static void lineNumbers() {
        BearMouse x = new BearMouse();
        x.walker(6, 0, 0);
        for (int part = 0; part <= 3; part++) {
            for (int n = 0; n <= 9; n++) {
                due.is("line(0, " + part + ", " + n + ")", x.line(0, part, n), Math.max(0, n - 1));
            }
            due.is("line(0, " + part + ", 10)", x.line(0, part, 10), -2);
            due.is("line(0, " + part + ", -1)", x.line(0, part, -1), -2);
            due.is("NEEDS in that ROW", x.of(0, 10 + 4 * part), 9);
        }
        due.is("line(0, 4, 0)", x.line(0, 4, 0), -1);
        due.is("line(0, -1, 0)", x.line(0, -1, 0), -1);
    }

    private static void lineAtFirst() {
        BearMouse x = new BearMouse();
        x.walker(6, 4, 30);
        x.line(0, 2, 8);
        x.walker(6, 0, 0);
        for (int part = 0; part <= 3; part++) {
            due.is("NEEDS of the second in ROW " + part, x.of(1, 10 + 4 * part), 0);
            due.is("line(1, " + part + ", 0)", x.line(1, part, 0), 0);
        }
    }

    private static void bearsOnSpoon() {
        for (int kind = 0; kind <= 6; kind++) {
            BearMouse x = new BearMouse();
            x.walker(kind, 0, 0);
            Due.brew(x, "spoon 0");
            Due.fillAll(x, 99);
            due.is("KIND " + kind + " on the SPOON", x.at(0, 2), 0);
            due.is("KIND " + kind + " beside it", x.at(1, 2), 1);
            Due.brew(x, "spoon 15");
            due.is("KIND " + kind + " where it was", x.at(0, 2), 1);
            due.is("KIND " + kind + " on the SPOON at 15", x.at(15, 2), 0);
        }
    }

    private static void bearsByStrength() {
        for (int kind = 0; kind <= 6; kind++) {
            BearMouse x = new BearMouse();
            x.walker(kind, 3, 21);
            // What it NEEDS is less from ROW to ROW here, by a HEN more.
            for (int row = 0; row < 4; row++) {
                x.line(0, row, 9 - 3 * row);
            }
            for (int cell = 0; cell < 16; cell++) {
                int needs = x.of(0, 10 + cell);
                x.set(cell, needs - 1);
                due.is("KIND " + kind + ", one too little at " + cell, x.at(cell, 2), 0);
                x.set(cell, needs);
                due.is("KIND " + kind + ", as much as it NEEDS at " + cell, x.at(cell, 2), 1);
                x.set(cell, 99);
                due.is("KIND " + kind + ", more at " + cell, x.at(cell, 2), 1);
            }
        }
        BearMouse x = new BearMouse();
        x.walker(3, 1, 99);
        x.walker(3, 0, 99);
        x.walker(0, 0, 0);
        x.set(1, 99);
        due.is("99 is too little for 100", x.at(1, 2), 6);
        due.is("0 is enough for 0", x.at(2, 2), 4);
    }

    private static void steps() {
        for (int kind = 0; kind <= 6; kind++) {
            BearMouse x = new BearMouse();
            x.walker(kind, 0, 10);
            boolean leaps = kind == 1 || kind == 4;
            Due.fill(x, 20, 0, 20, 20, 0, 0, 0, 0, 20, 0, 0, 20);
            due.is("KIND " + kind + " to a CELL NEXT", x.reach(0, 2, 3), 1);
            due.is("KIND " + kind + " a LEAP along the ROW", x.reach(0, 0, 2), leaps ? 1 : -5);
            due.is("KIND " + kind + " a LEAP back", x.reach(0, 2, 0), leaps ? 1 : -5);
            due.is("KIND " + kind + " a LEAP along the COLUMN", x.reach(0, 0, 8), leaps ? 1 : -5);
            due.is("KIND " + kind + " a LEAP up", x.reach(0, 11, 3), leaps ? 1 : -5);
            due.is("KIND " + kind + " 3 apart", x.reach(0, 0, 3), leaps ? 2 : -5);
            x.set(2, 0);
            due.is("KIND " + kind + " 3 apart at once", x.reach(0, 0, 3), -5);
        }
    }

    private static void stepsOnBearers() {
        BearMouse x = new BearMouse();
        x.walker(0, 0, 10);
        x.walker(1, 0, 10);
        Due.fill(x, 10, 9, 10, 10);
        due.is("not over one that does not BEAR it", x.reach(0, 0, 2), -5);
        due.is("not to one that does not", x.reach(0, 0, 1), -5);
        due.is("not from one that does not", x.reach(0, 1, 2), -5);
        due.is("a LEAP over one that does not", x.reach(1, 0, 2), 1);
        due.is("no LEAP to one that does not", x.reach(1, 3, 1), -5);
        due.is("no LEAP from one that does not", x.reach(1, 1, 3), -5);
        Due.brew(x, "spoon 2");
        due.is("no LEAP to the SPOON", x.reach(1, 0, 2), -5);
        due.is("no STEP by the SPOON", x.reach(1, 0, 3), -5);
        Due.brew(x, "spoon 1");
        due.is("a LEAP over the SPOON", x.reach(1, 0, 2), 1);
    }

    // ---- promises 1 to 3

    private static void newObject() {
        BearMouse x = new BearMouse();
        due.is("count(0)", x.count(0), 0);
        due.is("of(0, 0)", x.of(0, 0), -1);
        due.is("told(3)", x.told(3), 0);
        due.is("told(5)", x.told(5), 0);
        due.is("count(1)", x.count(1), 0);
        due.is("SPOON", x.told(1), -5);
        due.is("MILK", x.told(2), 10);
        for (int cell = 0; cell < 16; cell++) {
            due.is("GROWS of " + cell, x.at(cell, 1), 2);
        }
        x.walker(0, 0, 0);
        Due.brew(x, "spoon 0");
        due.is("another has none, either", new BearMouse().count(0), 0);
        due.is("another holds none, either", new BearMouse().told(1), -5);
    }

    private static void walker() {
        BearMouse x = new BearMouse();
        due.is("the first", x.walker(0, 0, 0), 0);
        due.is("the second", x.walker(6, 9, 99), 1);
        due.is("the second's KIND", x.of(1, 0), 6);
        due.is("the second's v", x.of(1, 1), 9);
        due.is("the second's WEIGHT", x.of(1, 2), 99);
        due.is("how many", x.count(0), 2);
    }

    private static void of() {
        BearMouse x = new BearMouse();
        x.walker(5, 9, 51);
        due.is("of(0, 0)", x.of(0, 0), 5);
        due.is("of(0, 1)", x.of(0, 1), 9);
        due.is("of(0, 2)", x.of(0, 2), 51);
        due.is("of(0, 3): it can't", x.of(0, 3), -5);
        due.is("of(0, 10)", x.of(0, 10), 50);
        due.is("of(0, 13)", x.of(0, 13), 50);
        due.is("of(0, 14)", x.of(0, 14), 102);
        due.is("of(0, 25)", x.of(0, 25), 102);
        Due.fill(x, 50, 50, 50, 50);
        due.is("of(0, 3)", x.of(0, 3), 3);
    }

    private static void noneOfOf() {
        due.refused("of(n, 0)", -1, (x, n) -> x.of(n, 0), -1, Rich.WALKERS, 5, LOW, HIGH);
        due.refused("of(0, n)", -1, (x, n) -> x.of(0, n), -1, 4, 9, 26, LOW, HIGH);
    }

    // ---- promises 4 to 9

    private static void at() {
        BearMouse x = new BearMouse();
        for (int k = 0; k < 5; k++) {
            x.walker(0, 0, 10 * k);
        }
        Due.brew(x, "thin 9 c=15;thick 9 c=0");
        x.set(0, 99);
        x.set(15, 29);
        due.is("at(0, 0)", x.at(0, 0), 99);
        due.is("at(0, 1)", x.at(0, 1), 11);
        due.is("at(0, 2)", x.at(0, 2), 31);
        due.is("at(15, 0)", x.at(15, 0), 29);
        due.is("at(15, 1)", x.at(15, 1), -7);
        due.is("at(15, 2)", x.at(15, 2), 7);
    }

    private static void noneOfAt() {
        for (int what = 0; what <= 2; what++) {
            int asked = what;
            due.refused("at(n, " + what + ")", -1001, (x, n) -> x.at(n, asked), -1, 16, LOW, HIGH);
        }
        due.refused("at(0, n)", -1001, (x, n) -> x.at(0, n), -1, 3, LOW, HIGH);
        BearMouse x = new BearMouse();
        Due.brew(x, "thin 99 c<9;thin 99 c<9;thin 99 c<9;thin 99 c<9;thin 99 c<9;thin 99 c<9;thin 99 c<9;thin 99 c<9");
        due.is("the least that GROWS can be", x.at(0, 1), 2 - 8 * 99);
    }

    private static void set() {
        BearMouse x = new BearMouse();
        due.is("set(0, 99)", x.set(0, 99), 0);
        due.is("set(0, 0)", x.set(0, 0), 99);
        due.is("set(15, 99)", x.set(15, 99), 0);
        due.is("set(15, 98)", x.set(15, 98), 99);
        due.is("at(0, 0)", x.at(0, 0), 0);
        due.is("at(15, 0)", x.at(15, 0), 98);
        due.is("together", x.told(4), 98);
    }

    private static void weigh() {
        BearMouse x = new BearMouse();
        x.walker(0, 0, 50);
        x.walker(0, 0, 60);
        due.is("weigh(0, 0)", x.weigh(0, 0), 50);
        due.is("weigh(0, 99)", x.weigh(0, 99), 0);
        due.is("of(0, 2)", x.of(0, 2), 99);
        due.is("of(1, 2)", x.of(1, 2), 60);
        due.is("weigh(1, 1)", x.weigh(1, 1), 60);
    }

    private static void line() {
        BearMouse x = new BearMouse();
        x.walker(6, 0, 10);
        x.walker(6, 0, 20);
        due.is("line(0, 0, 9)", x.line(0, 0, 9), 0);
        due.is("line(0, 3, 1)", x.line(0, 3, 1), 0);
        due.is("line(0, 0, 0)", x.line(0, 0, 0), 9);
        due.is("NEEDS in ROW 0", x.of(0, 10), 10);
        due.is("NEEDS in ROW 3", x.of(0, 22), 11);
        due.is("the other's", x.of(1, 22), 20);
    }

    private static void lineOfAnotherKind() {
        for (int kind = 0; kind < 6; kind++) {
            BearMouse x = new BearMouse();
            x.walker(kind, 2, 20);
            int before = x.of(0, 10);
            for (int part = 0; part < 4; part++) {
                due.is("line(0, " + part + ", 9) of KIND " + kind, x.line(0, part, 9), -3);
            }
            due.is("NEEDS of KIND " + kind, x.of(0, 10), before);
        }
        due.unchanged("line(1, 0, 0)", -3, x -> x.line(1, 0, 0));
    }

    private static void milk() {
        BearMouse x = new BearMouse();
        Due.fill(x, 99, 10, 9);
        x.set(15, 12);
        due.is("milk(0)", x.milk(0), 89);
        due.is("milk(1)", x.milk(1), 0);
        due.is("milk(2)", x.milk(2), 0);
        due.is("milk(15)", x.milk(15), 2);
        due.is("milk(15) again", x.milk(15), 0);
        due.is("together", x.told(4), 89);
        due.is("no MINUTE goes", x.told(0), 0);
    }

    private static void stir() {
        BearMouse x = new BearMouse();
        Due.fill(x, 1, 2, 3, 4, 5);
        due.is("stir(0, 1)", x.stir(0, 1), 2);
        due.is("stir(0, 1) again", x.stir(0, 1), 1);
        due.is("stir(1, 0)", x.stir(1, 0), 1);
        due.is("stir(0, 4)", x.stir(0, 4), 5);
        due.is("stir(15, 14)", x.stir(15, 14), 0);
    }

    private static void stirNotNext() {
        int[][] pairs = {{0, 0}, {15, 15}, {0, 2}, {0, 8}, {3, 4}, {4, 3}, {7, 8}, {11, 12}, {0, 5}, {5, 0}, {1, 4}, {0, 15}, {0, 12}};
        for (int[] pair : pairs) {
            due.unchanged("stir(" + pair[0] + ", " + pair[1] + ")", -2, x -> x.stir(pair[0], pair[1]));
        }
    }
}
