/** The edges of the AFTERNOON and the BOOK in the terms, and of promises 29 to 32, sentence by sentence. */
public final class AfternoonEdgesTest {
    private static final int LOW = Integer.MIN_VALUE;
    private static final int HIGH = Integer.MAX_VALUE;
    private static final Due due = new Due();

    public static void main(String[] args) {
        terms();
        afternoons();
        books();
        due.end();
    }

    private static void terms() {
        due.test(0, "AN AFTERNOON told by hand: what goes (0 a MINUTE,", AfternoonEdgesTest::minutesGo);
        due.test(0, "1 MILK on CELL n,", AfternoonEdgesTest::milkGoes);
        due.test(0, "2 CELL n is STIRRED with the one to its right", AfternoonEdgesTest::stirring);
        due.test(0, "(nothing in COLUMN 3);", AfternoonEdgesTest::nothingInColumn3);
        due.test(0, "10 rows at most): ENDS", AfternoonEdgesTest::tenRows);
        due.test(0, "ENDS: who can CROSS (bits); STRENGTH of all CELLS, together.", AfternoonEdgesTest::endsOfAll);
        due.test(0, "A BOOK told by hand: CELLS, STRENGTH (0 .. 99;", AfternoonEdgesTest::bookNumbers);
        due.test(0, "8 at most): LOOKED at:", AfternoonEdgesTest::eightRows);
        due.test(0, "the number of the first of these rows by which it is otherwise now", AfternoonEdgesTest::firstOtherwise);
        due.test(0, "(-5: none).\n  ACTS", AfternoonEdgesTest::noneOtherwise);
    }

    private static void afternoons() {
        due.test(29, "What goes comes to the AFTERNOON: how many there are", AfternoonEdgesTest::afternoon);
        due.test(29, "(what -1: it is empty then, 0, whatever the other is).", AfternoonEdgesTest::afternoonEmpty);
        due.test(29, "NONE: what (0 .. 2),", () -> {
            due.refused("afternoon(n, 0)", -1, (x, n) -> x.afternoon(n, 0), -2, 3, LOW, HIGH);
            due.unchangedFull("afternoon(3, 0)", -1, x -> x.afternoon(3, 0));
        });
        due.test(29, "CELL (by 1, 2;", () -> {
            due.refused("afternoon(1, n)", -1, (x, n) -> x.afternoon(1, n), -1, 16, LOW, HIGH);
            due.refused("afternoon(2, n)", -1, (x, n) -> x.afternoon(2, n), -1, 16, LOW, HIGH);
            due.unchangedFull("afternoon(1, 16)", -1, x -> x.afternoon(1, 16));
            due.unchangedFull("afternoon(2, -1)", -1, x -> x.afternoon(2, -1));
        });
        due.test(29, "by 0 n does not matter);", AfternoonEdgesTest::minuteOfAnyN);
        due.test(29, "FULL: 10.", () -> {
            due.unchangedFull("afternoon(0, 99)", -4, x -> x.afternoon(0, 99));
            due.unchangedFull("afternoon(1, 0)", -4, x -> x.afternoon(1, 0));
            due.unchangedFull("afternoon(2, 15)", -4, x -> x.afternoon(2, 15));
        });
        due.test(30, "ENDS: what 0 who can CROSS, 1 STRENGTH.", AfternoonEdgesTest::ends);
        due.test(30, "NONE.", () -> due.refused("ends(n)", -1, (x, n) -> x.ends(n), -1, 2, LOW, HIGH));
    }

    private static void books() {
        due.test(31, "A row comes to the BOOK: how many there are", AfternoonEdgesTest::book);
        due.test(31, "(cell -1: it is empty then, 0, whatever the other is).", AfternoonEdgesTest::bookEmpty);
        due.test(31, "NONE;", () -> {
            due.refused("book(n, 0)", -1, (x, n) -> x.book(n, 0), -2, 16, LOW, HIGH);
            due.refused("book(n, 100)", -1, (x, n) -> x.book(n, 100), -2, 16);
            due.unchangedFull("book(16, 0)", -1, x -> x.book(16, 0));
        });
        due.test(31, "BAD: strength;", () -> {
            due.refused("book(0, n)", -2, (x, n) -> x.book(0, n), -1, 100, LOW, HIGH);
            due.unchangedFull("book(0, 100)", -2, x -> x.book(0, 100));
        });
        due.test(31, "FULL: 8.", () -> due.unchangedFull("book(0, 0)", -4, x -> x.book(0, 0)));
        due.test(32, "LOOKED at; -5.", AfternoonEdgesTest::looked);
    }

    private static BearMouse after(BearMouse x, int... rows) {
        for (int k = 0; k < rows.length; k += 2) {
            x.afternoon(rows[k], rows[k + 1]);
        }
        return x;
    }

    private static BearMouse cup(int... strengths) {
        BearMouse x = new BearMouse();
        Due.fill(x, strengths);
        return x;
    }

    // ---- the AFTERNOON

    private static void minutesGo() {
        BearMouse x = cup(98, 99);
        due.is("nothing goes", x.ends(1), 197);
        x.afternoon(0, 0);
        due.is("a MINUTE", x.ends(1), 198 + 28);
        x.afternoon(0, 0);
        due.is("two MINUTES", x.ends(1), 198 + 56);
        BearMouse y = cup(1);
        Due.brew(y, "thin 4 m=1;thick 10 m=2");
        due.is("as MINUTES count on", after(y, 0, 0, 0, 0, 0, 0).ends(1), 13 + 15 * 12);
        y.pass(1);
        due.is("from how all is", y.ends(1), 15 + 15 * 14);
        due.is("no MINUTE has gone", y.told(0), 1);
    }

    private static void milkGoes() {
        for (int cell = 0; cell < 16; cell++) {
            BearMouse x = cup();
            x.set(cell, 10 + cell);
            due.is("MILK on CELL " + cell, after(x, 1, cell).ends(1), cell);
            due.is("MILK again", after(x, 1, cell).ends(1), Math.max(0, cell - 10));
        }
        BearMouse x = cup(50, 9);
        Due.brew(x, "milk 45");
        due.is("MILK of 45", after(x, 1, 0, 1, 1).ends(1), 5);
        Due.brew(x, "milk 0");
        due.is("MILK that is none", x.ends(1), 59);
    }

    /** Where a CELL alone has STRENGTH, a MILK behind the stirring tells where that went. */
    private static void stirring() {
        for (int cell = 0; cell < 16; cell++) {
            if (cell % 4 < 3) {
                BearMouse x = cup();
                x.set(cell, 30);
                due.is("CELL " + cell + " goes right", after(x, 2, cell, 1, cell + 1).ends(1), 20);
                BearMouse y = cup();
                y.set(cell + 1, 30);
                due.is("CELL " + (cell + 1) + " goes left", after(y, 2, cell, 1, cell).ends(1), 20);
                due.is("and back", after(y, 2, cell, 1, cell + 1).ends(1), 10);
            }
        }
    }

    private static void nothingInColumn3() {
        for (int cell = 3; cell < 16; cell += 4) {
            BearMouse x = cup();
            x.set(cell, 30);
            due.is("CELL " + cell + " stays", after(x, 2, cell, 1, cell).ends(1), 20);
            due.is("count(3)", x.count(3), 2);
            if (cell < 15) {
                BearMouse y = cup();
                y.set(cell + 1, 30);
                due.is("CELL " + (cell + 1) + " stays", after(y, 2, cell, 1, cell + 1).ends(1), 20);
            }
        }
    }

    private static void tenRows() {
        BearMouse x = cup();
        for (int k = 1; k <= 10; k++) {
            due.is("row " + k, x.afternoon(0, 0), k);
            due.is("ends(1) by " + k, x.ends(1), 32 * k);
        }
        due.is("an eleventh", x.afternoon(0, 0), -4);
        due.is("ends(1) in the end", x.ends(1), 320);
    }

    private static void endsOfAll() {
        BearMouse x = cup(5, 5, 5, 5);
        for (int k = 0; k < 5; k++) {
            x.walker(0, 0, 2 * k);
        }
        due.is("ends(0)", x.ends(0), 7);
        due.is("ends(1)", x.ends(1), 20);
        after(x, 0, 0);
        due.is("ends(0) behind a MINUTE", x.ends(0), 15);
        after(x, 1, 0);
        due.is("ends(0) behind MILK", x.ends(0), 3);
        due.is("ends(1) behind MILK", x.ends(1), 21 + 24);
        after(x, 2, 0, 1, 0, 2, 0, 0, 0, 0, 0);
        due.is("ends(0) behind all", x.ends(0), 15);
        due.is("ends(1) behind all", x.ends(1), 4 + 4 + 11 + 11 + 12 * 6);
        Due.fillAll(x, 99);
        due.is("ends(0) of the most", x.ends(0), 31);
        due.is("count(3)", x.count(3), 7);
    }

    private static void afternoon() {
        BearMouse x = cup();
        int[] cells = {0, 15, 0, 15, 3, 4};
        for (int k = 0; k < cells.length; k++) {
            due.is("row " + (k + 1), x.afternoon(k % 3, cells[k]), k + 1);
        }
        due.is("count(3)", x.count(3), cells.length);
    }

    private static void afternoonEmpty() {
        BearMouse x = cup();
        due.is("where it is empty", x.afternoon(-1, 0), 0);
        for (int n : new int[] {0, 15, 16, -1, LOW, HIGH}) {
            after(x, 0, 0);
            due.is("ends(1)", x.ends(1), 32);
            due.is("afternoon(-1, " + n + ")", x.afternoon(-1, n), 0);
            due.is("count(3)", x.count(3), 0);
            due.is("ends(1) then", x.ends(1), 0);
        }
        for (int k = 0; k < 10; k++) {
            after(x, 0, 0);
        }
        due.is("where it is FULL", x.afternoon(-1, 0), 0);
        due.is("the next is the first", x.afternoon(2, 0), 1);
    }

    private static void minuteOfAnyN() {
        int rows = 0;
        BearMouse x = cup();
        for (int n : new int[] {0, 15, 16, 99, -1, -2, LOW, HIGH}) {
            rows++;
            due.is("afternoon(0, " + n + ")", x.afternoon(0, n), rows);
            due.is("ends(1)", x.ends(1), 32 * rows);
        }
    }

    private static void ends() {
        BearMouse x = cup(10, 10, 10, 9);
        x.walker(0, 0, 9);
        x.walker(0, 0, 10);
        due.is("ends(0)", x.ends(0), 1);
        due.is("ends(1)", x.ends(1), 39);
        after(x, 0, 0);
        due.is("ends(0) behind a MINUTE", x.ends(0), 3);
        due.is("ends(1) behind a MINUTE", x.ends(1), 47 + 24);
        due.is("told(3)", x.told(3), 1);
        due.is("told(4)", x.told(4), 39);
    }

    // ---- the BOOK

    private static void bookNumbers() {
        BearMouse x = cup(0, 99);
        due.is("book(0, 0)", x.book(0, 0), 1);
        due.is("book(1, 99)", x.book(1, 99), 2);
        due.is("looked()", x.looked(), -5);
        due.is("book(1, 100)", x.book(1, 100), -2);
        due.is("book(0, -1)", x.book(0, -1), -2);
        due.is("looked() then", x.looked(), -5);
        for (int n = 0; n <= 99; n++) {
            x.book(-1, 0);
            due.is("book(5, " + n + ")", x.book(5, n), 1);
            x.set(5, n);
            due.is("looked() by " + n, x.looked(), -5);
        }
    }

    private static void eightRows() {
        BearMouse x = cup();
        for (int k = 0; k < 8; k++) {
            due.is("row " + k, x.book(8 + k, 1), k + 1);
        }
        due.is("a ninth", x.book(0, 5), -4);
        for (int k = 0; k < 8; k++) {
            due.is("looked() at " + k, x.looked(), k);
            x.set(8 + k, 1);
        }
        due.is("looked() at no ninth", x.looked(), -5);
        due.is("count(4)", x.count(4), 8);
    }

    private static void firstOtherwise() {
        BearMouse x = cup(1, 2, 3);
        x.book(2, 3);
        x.book(0, 5);
        x.book(1, 7);
        x.book(0, 1);
        due.is("looked()", x.looked(), 1);
        x.set(0, 5);
        due.is("looked() behind that", x.looked(), 2);
        x.set(1, 7);
        due.is("of two rows of one CELL the later", x.looked(), 3);
        x.set(2, 4);
        due.is("looked() at the first", x.looked(), 0);
    }

    private static void noneOtherwise() {
        BearMouse x = cup(1, 2, 3);
        due.is("an empty BOOK", x.looked(), -5);
        x.book(0, 1);
        x.book(0, 1);
        x.book(2, 3);
        due.is("all rows as it is", x.looked(), -5);
        x.set(1, 50);
        due.is("another CELL is otherwise", x.looked(), -5);
        x.set(2, 50);
        due.is("the last row is otherwise", x.looked(), 2);
    }

    private static void book() {
        BearMouse x = cup();
        int[] cells = {0, 15, 0, 7, 15};
        for (int k = 0; k < cells.length; k++) {
            due.is("row " + (k + 1), x.book(cells[k], 20 * k), k + 1);
        }
        due.is("count(4)", x.count(4), cells.length);
    }

    private static void bookEmpty() {
        BearMouse x = cup();
        due.is("where it is empty", x.book(-1, 0), 0);
        for (int n : new int[] {0, 99, 100, -1, LOW, HIGH}) {
            x.book(3, 3);
            due.is("looked()", x.looked(), 0);
            due.is("book(-1, " + n + ")", x.book(-1, n), 0);
            due.is("count(4)", x.count(4), 0);
            due.is("looked() then", x.looked(), -5);
        }
        for (int k = 0; k < 8; k++) {
            x.book(k, 1);
        }
        due.is("where it is FULL", x.book(-1, 0), 0);
        due.is("the next is the first", x.book(0, 0), 1);
    }

    private static void looked() {
        BearMouse x = cup();
        due.is("looked() at nothing", x.looked(), -5);
        x.book(15, 2);
        due.is("looked() ahead of a MINUTE", x.looked(), 0);
        x.pass(1);
        due.is("looked() behind it", x.looked(), -5);
        x.pass(1);
        due.is("looked() behind two", x.looked(), 0);
    }
}
