/** The edges of TAPES, of what is JUDGED and of the host's refusals in the terms, and of promises 33 and 40 to 43. */
public final class TapeEdgesTest {
    private static final int LOW = Integer.MIN_VALUE;
    private static final int HIGH = Integer.MAX_VALUE;
    private static final long NO = Long.MIN_VALUE;
    private static final int BYTES = 0, SHORTS = 1, INTS = 2, LONGS = 3, BOOLEANS = 4;
    private static final Due due = new Due();

    public static void main(String[] args) {
        terms();
        judged();
        refusals();
        promises();
        shifts();
        due.end();
    }

    private static void terms() {
        due.test(0, "TAPES 0 .. 5 hold nothing (at first),", TapeEdgesTest::tapesAtFirst);
        due.test(0, "or a row of 0 bytes,", () -> sort(BYTES, -128, 127));
        due.test(0, "1 shorts,", () -> sort(SHORTS, -32768, 32767));
        due.test(0, "2 ints,", () -> sort(INTS, LOW, HIGH));
        due.test(0, "3 longs,", () -> sort(LONGS, Long.MIN_VALUE, Long.MAX_VALUE));
        due.test(0, "4 booleans (items 0, 1).", TapeEdgesTest::booleans);
    }

    private static void judged() {
        due.test(0, "STRENGTH told by a row of bytes, from a place on, CELL by CELL, is JUDGED: the first that is otherwise;",
            TapeEdgesTest::judgedFirst);
        due.test(0, "-5: none, or there is none to look at;", TapeEdgesTest::judgedNone);
        due.test(0, "100 and how many were looked at, if the row ends ahead of that", TapeEdgesTest::judgedEnd);
        due.test(0, "(or the place is below 0,", TapeEdgesTest::judgedBelow0);
        due.test(0, "or the TAPE holds nothing).", TapeEdgesTest::judgedNothing);
        due.test(33, "JUDGED from place i of a TAPE on.", TapeEdgesTest::judge);
        due.test(33, "NONE: tape;", () -> due.refused("judge(n, 0)", -1, (x, n) -> x.judge(n, 0), -1, 6, LOW, HIGH));
        due.test(33, "CAST: it is no row of bytes.", TapeEdgesTest::judgeCast);
    }

    private static void refusals() {
        due.test(0, "The host's refusals: NOTHING (-11): nothing is there;", TapeEdgesTest::nothing);
        due.test(0, "CAST (-12): another sort or KIND;", TapeEdgesTest::cast);
        due.test(0, "PLACE (-13): no such place;", TapeEdgesTest::place);
        due.test(0, "SIZE (-14): a size below 0.", TapeEdgesTest::size);
    }

    private static void promises() {
        due.test(40, "A TAPE becomes a row of n (0 .. 60) of a sort, all 0,", TapeEdgesTest::tape);
        due.test(40, "or holds nothing (sort -1: n does not matter): 1.", TapeEdgesTest::tapeOfNothing);
        due.test(40, "NONE: tape;", () -> {
            due.refused("tape(n, 0, 1)", -1, (x, n) -> x.tape(n, 0, 1), -1, 6, LOW, HIGH);
            due.refused("tape(n, -1, 1)", -1, (x, n) -> x.tape(n, -1, 1), -1, 6);
            due.refused("tape(n, 5, 61)", -1, (x, n) -> x.tape(n, 5, 61), -1, 6);
        });
        due.test(40, "BAD: sort,", () -> {
            due.refused("tape(0, n, 1)", -2, (x, n) -> x.tape(0, n, 1), -2, 5, LOW, HIGH);
            due.refused("tape(0, n, -1)", -2, (x, n) -> x.tape(0, n, -1), -2, 5);
        });
        due.test(40, "n above 60;", () -> due.refused("tape(0, 0, n)", -2, (x, n) -> x.tape(0, 0, n), 61, 62, HIGH));
        due.test(40, "SIZE.", () -> due.refused("tape(0, 4, n)", -14, (x, n) -> x.tape(0, 4, n), -1, -2, LOW));
        due.test(41, "Item i of a TAPE becomes v (its lowest bits, as many as an item has;", TapeEdgesTest::lowestBits);
        due.test(41, "booleans: whether v is not 0): 1.", TapeEdgesTest::booleanItems);
        due.test(41, "NONE;", () -> due.refused("item(n, 0, 7)", -1, (x, n) -> x.item(n, 0, 7), -1, 6, LOW, HIGH));
        due.test(41, "NOTHING;", () -> due.refused("item(4, n, 7)", -11, (x, n) -> x.item(4, n, 7), -1, 0, 60, LOW, HIGH));
        due.test(41, "PLACE.", () -> {
            due.refused("item(0, n, 7)", -13, (x, n) -> x.item(0, n, 7), -1, 20, 59, LOW, HIGH);
            due.refused("item(5, n, 7)", -13, (x, n) -> x.item(5, n, 7), -1, 0);
        });
        due.test(42, "Item i of a TAPE.", TapeEdgesTest::read);
        due.test(42, "NO: no such TAPE,", () -> due.refused("read(n, 0)", NO, (x, n) -> x.read(n, 0), -1, 6, LOW, HIGH));
        due.test(42, "nothing there,", () -> due.refused("read(4, n)", NO, (x, n) -> x.read(4, n), -1, 0, 59, LOW, HIGH));
        due.test(42, "no such place.", () -> {
            due.refused("read(0, n)", NO, (x, n) -> x.read(0, n), -1, 20, 59, 60, LOW, HIGH);
            due.refused("read(5, n)", NO, (x, n) -> x.read(5, n), -1, 0);
        });
    }

    private static void shifts() {
        due.test(43, "n items of a TAPE from i on come to another one", TapeEdgesTest::shift);
        due.test(43, "(or the same) from j on, as they all were before: n.", TapeEdgesTest::shiftWithin);
        due.test(43, "NONE: tapes;", () -> {
            due.refused("shift(n, 0, 0, 0, 1)", -1, (x, n) -> x.shift(n, 0, 0, 0, 1), -1, 6, LOW, HIGH);
            due.refused("shift(0, 0, n, 0, 1)", -1, (x, n) -> x.shift(0, 0, n, 0, 1), -1, 6, LOW, HIGH);
            due.refused("shift(4, -1, n, -1, -1)", -1, (x, n) -> x.shift(4, -1, n, -1, -1), -1, 6);
        });
        due.test(43, "NOTHING;", () -> {
            due.refused("shift(4, n, 0, 0, 1)", -11, (x, n) -> x.shift(4, n, 0, 0, 1), -1, 0);
            due.refused("shift(0, n, 4, 0, 1)", -11, (x, n) -> x.shift(0, n, 4, 0, 1), -1, 0);
            due.refused("shift(4, 0, 4, 0, n)", -11, (x, n) -> x.shift(4, 0, 4, 0, n), -1, 0, 1);
        });
        due.test(43, "CAST: of unlike sorts;", () -> {
            due.refused("shift(0, 0, n, 0, 1)", -12, (x, n) -> x.shift(0, 0, n, 0, 1), 1, 2, 3, 5);
            due.refused("shift(n, 0, 0, 0, 0)", -12, (x, n) -> x.shift(n, 0, 0, 0, 0), 1, 2, 3, 5);
            due.refused("shift(1, n, 2, n, n)", -12, (x, n) -> x.shift(1, n, 2, n, n), -1, LOW, HIGH);
        });
        due.test(43, "PLACE: n, i or j is below 0,", TapeEdgesTest::shiftBelow0);
        due.test(43, "or beyond either's end.", TapeEdgesTest::shiftBeyond);
    }

    // ---- TAPES

    private static void tapesAtFirst() {
        BearMouse x = new BearMouse();
        for (int tape = 0; tape <= 5; tape++) {
            due.is("read(" + tape + ", 0)", x.read(tape, 0), NO);
            due.is("item(" + tape + ", 0, 1)", x.item(tape, 0, 1), -11);
            due.is("judge(" + tape + ", 0)", x.judge(tape, 0), 100);
            due.is("shift(" + tape + ", ..)", x.shift(tape, 0, tape, 0, 0), -11);
        }
        for (int tape = 0; tape <= 5; tape++) {
            due.is("tape(" + tape + ", 2, 1)", x.tape(tape, 2, 1), 1);
            due.is("item then", x.item(tape, 0, 10 + tape), 1);
        }
        for (int tape = 0; tape <= 5; tape++) {
            due.is("read(" + tape + ", 0) then", x.read(tape, 0), 10 + tape);
        }
        due.is("tape(6, 2, 1)", x.tape(6, 2, 1), -1);
        due.is("tape(-1, 2, 1)", x.tape(-1, 2, 1), -1);
    }

    private static void sort(int sort, long least, long greatest) {
        BearMouse x = new BearMouse();
        x.tape(2, sort, 3);
        for (long v : new long[] {least, least + 1, -1, 0, 1, greatest - 1, greatest}) {
            due.is("item " + v, x.item(2, 1, v), 1);
            due.is("read " + v, x.read(2, 1), v);
        }
        x.item(2, 1, greatest + 1);
        due.is("read of one more than " + greatest, x.read(2, 1), least);
        x.item(2, 1, least - 1);
        due.is("read of one less than " + least, x.read(2, 1), greatest);
        due.is("beside it", x.read(2, 0), 0);
    }

    private static void booleans() {
        BearMouse x = new BearMouse();
        x.tape(2, BOOLEANS, 3);
        due.is("at first", x.read(2, 1), 0);
        x.item(2, 1, 1);
        due.is("read of 1", x.read(2, 1), 1);
        x.item(2, 1, 0);
        due.is("read of 0", x.read(2, 1), 0);
    }

    // ---- JUDGED

    /** CELLS of STRENGTH 20 and more, a row of bytes that tells them from place 5 on, up to its end. */
    private static BearMouse toldFrom5(int cells) {
        BearMouse x = new BearMouse();
        x.tape(1, BYTES, 5 + cells);
        for (int cell = 0; cell < 16; cell++) {
            x.set(cell, 20 + cell);
            x.item(1, 5 + cell, 20 + cell);
        }
        return x;
    }

    private static void judgedFirst() {
        for (int cell = 0; cell < 16; cell++) {
            BearMouse x = toldFrom5(20);
            x.set(15, 0);
            x.item(1, 5 + cell, 99);
            due.is("CELL " + cell + " is otherwise", x.judge(1, 5), cell);
            x.item(1, 5 + cell, 20 + cell);
            due.is("the last is otherwise", x.judge(1, 5), 15);
        }
        BearMouse x = toldFrom5(16);
        due.is("from a place too early", x.judge(1, 4), 0);
        due.is("from a place too late", x.judge(1, 6), 0);
        x.item(1, 5, 20 - 256);
        due.is("by the lowest bits", x.judge(1, 5), -5);
        x.item(1, 5, -20);
        due.is("below 0", x.judge(1, 5), 0);
    }

    private static void judgedNone() {
        for (int cells = 16; cells <= 20; cells++) {
            due.is("none of 16 by a row that is " + (cells - 16) + " longer", toldFrom5(cells).judge(1, 5), -5);
        }
        BearMouse x = new BearMouse();
        x.tape(0, BYTES, 60);
        due.is("none from 0 on", x.judge(0, 0), -5);
        due.is("none from 44 on", x.judge(0, 44), -5);
        Due.fillAll(x, 99);
        for (int place = 0; place < 60; place++) {
            x.item(0, place, 99);
        }
        due.is("none of 99", x.judge(0, 44), -5);
    }

    private static void judgedEnd() {
        for (int cells = 0; cells < 16; cells++) {
            due.is("the row ends behind " + cells, toldFrom5(cells).judge(1, 5), 100 + cells);
        }
        BearMouse x = toldFrom5(15);
        x.set(14, 0);
        due.is("the last that is there is otherwise", x.judge(1, 5), 14);
        x = toldFrom5(3);
        due.is("from the end on", x.judge(1, 8), 100);
        due.is("from beyond the end on", x.judge(1, 9), 100);
        due.is("from far beyond it on", x.judge(1, HIGH), 100);
        x.tape(1, BYTES, 0);
        due.is("an empty row", x.judge(1, 0), 100);
        due.is("an empty row from 1 on", x.judge(1, 1), 100);
        x.tape(1, BYTES, 60);
        Due.fillAll(x, 0);
        due.is("from 45 of 60 on", x.judge(1, 45), 115);
        due.is("from 59 of 60 on", x.judge(1, 59), 101);
        due.is("from 60 of 60 on", x.judge(1, 60), 100);
    }

    private static void judgedBelow0() {
        BearMouse x = toldFrom5(20);
        due.is("place -1", x.judge(1, -1), 100);
        due.is("place -5", x.judge(1, -5), 100);
        due.is("place -16", x.judge(1, -16), 100);
        due.is("place far below", x.judge(1, LOW), 100);
        x.tape(1, BYTES, 0);
        due.is("place -1 of an empty row", x.judge(1, -1), 100);
    }

    private static void judgedNothing() {
        BearMouse x = toldFrom5(16);
        for (int place : new int[] {0, 5, -1, LOW, HIGH}) {
            due.is("judge(0, " + place + ")", x.judge(0, place), 100);
        }
        x.tape(1, -1, 0);
        due.is("judge(1, 5) of nothing then", x.judge(1, 5), 100);
    }

    private static void judge() {
        for (int tape = 0; tape <= 5; tape++) {
            BearMouse x = new BearMouse();
            x.tape(tape, BYTES, 18);
            x.item(tape, 0, 9);
            due.is("judge(" + tape + ", 0)", x.judge(tape, 0), 0);
            due.is("judge(" + tape + ", 1)", x.judge(tape, 1), -5);
            due.is("judge(" + tape + ", 2)", x.judge(tape, 2), -5);
            due.is("judge(" + tape + ", 3)", x.judge(tape, 3), 115);
        }
    }

    private static void judgeCast() {
        for (int sort = SHORTS; sort <= BOOLEANS; sort++) {
            BearMouse x = new BearMouse();
            x.tape(0, sort, 20);
            due.is("sort " + sort, x.judge(0, 0), -12);
            x.tape(0, sort, 0);
            due.is("sort " + sort + ", an empty row", x.judge(0, 0), -12);
        }
        due.refused("judge(n, 0)", -12, (x, n) -> x.judge(n, 0), 1, 2, 3, 5);
    }

    // ---- the host's refusals

    private static void nothing() {
        BearMouse x = new BearMouse();
        due.is("item", x.item(0, 0, 0), -11);
        due.is("shift", x.shift(0, 0, 1, 0, 0), -11);
        due.is("taken", x.taken(0, 0), -11);
        x.tape(0, BYTES, 0);
        due.is("shift to nothing", x.shift(0, 0, 1, 0, 0), -11);
        due.is("shift from nothing", x.shift(1, 0, 0, 0, 0), -11);
        due.is("an empty row is not nothing", x.item(0, 0, 0), -13);
    }

    private static void cast() {
        BearMouse x = new BearMouse();
        x.tape(0, BYTES, 5);
        x.tape(1, BOOLEANS, 5);
        x.walker(2, 0, 0);
        due.is("shift", x.shift(0, 0, 1, 0, 1), -12);
        due.is("judge", x.judge(1, 0), -12);
        due.is("taken for a KIND beside it", x.taken(0, 1), -12);
        due.is("taken for a KIND under it", x.taken(0, 5), -12);
    }

    private static void place() {
        BearMouse x = new BearMouse();
        x.tape(0, BYTES, 5);
        due.is("item 5", x.item(0, 5, 0), -13);
        due.is("item -1", x.item(0, -1, 0), -13);
        due.is("item 4", x.item(0, 4, 0), 1);
        due.is("shift", x.shift(0, 1, 0, 0, 5), -13);
    }

    private static void size() {
        BearMouse x = new BearMouse();
        due.is("-1", x.tape(0, BYTES, -1), -14);
        due.is("far below", x.tape(0, LONGS, LOW), -14);
        due.is("0", x.tape(0, BYTES, 0), 1);
    }

    // ---- promises 40 to 42

    private static void tape() {
        BearMouse x = new BearMouse();
        for (int sort = BYTES; sort <= BOOLEANS; sort++) {
            for (int n : new int[] {0, 1, 60}) {
                due.is("tape(3, " + sort + ", " + n + ")", x.tape(3, sort, n), 1);
                for (int i = 0; i < n; i++) {
                    due.is("item " + i + " of " + n, x.read(3, i), 0);
                }
                due.is("no item " + n, x.read(3, n), NO);
                due.is("no item -1", x.read(3, -1), NO);
                due.is("no room for item " + n, x.item(3, n, 1), -13);
            }
            x = new BearMouse();
            x.tape(3, sort, 60);
            x.item(3, 0, 1);
            x.item(3, 59, 1);
            due.is("the last item", x.read(3, 59), 1);
            x.tape(3, sort, 1);
            x.tape(3, sort, 60);
            due.is("all 0 again: the first", x.read(3, 0), 0);
            due.is("all 0 again: the last", x.read(3, 59), 0);
        }
    }

    private static void tapeOfNothing() {
        BearMouse x = new BearMouse();
        for (int n : new int[] {0, 1, 60, 61, -1, LOW, HIGH}) {
            due.is("tape(0, 2, 2)", x.tape(0, INTS, 2), 1);
            due.is("tape(0, -1, " + n + ")", x.tape(0, -1, n), 1);
            due.is("nothing to read", x.read(0, 0), NO);
            due.is("nothing is there", x.item(0, 0, 1), -11);
            due.is("nothing becomes nothing", x.tape(0, -1, n), 1);
        }
    }

    private static void lowest(int sort, long v, long want) {
        BearMouse x = new BearMouse();
        x.tape(5, sort, 60);
        due.is("item(5, 59, " + v + ")", x.item(5, 59, v), 1);
        due.is("sort " + sort + ", " + v, x.read(5, 59), want);
    }

    private static void lowestBits() {
        lowest(BYTES, 128, -128);
        lowest(BYTES, 255, -1);
        lowest(BYTES, 256, 0);
        lowest(BYTES, -129, 127);
        lowest(BYTES, Long.MIN_VALUE, 0);
        lowest(BYTES, Long.MAX_VALUE, -1);
        lowest(SHORTS, 32768, -32768);
        lowest(SHORTS, 65536, 0);
        lowest(SHORTS, -32769, 32767);
        lowest(SHORTS, Long.MAX_VALUE, -1);
        lowest(INTS, 1L << 31, LOW);
        lowest(INTS, 1L << 32, 0);
        lowest(INTS, -(1L << 31) - 1, HIGH);
        lowest(INTS, Long.MIN_VALUE, 0);
        lowest(LONGS, Long.MIN_VALUE, Long.MIN_VALUE);
        lowest(LONGS, Long.MAX_VALUE, Long.MAX_VALUE);
        lowest(LONGS, 1L << 32, 1L << 32);
    }

    private static void booleanItems() {
        lowest(BOOLEANS, 0, 0);
        lowest(BOOLEANS, 1, 1);
        lowest(BOOLEANS, 2, 1);
        lowest(BOOLEANS, -1, 1);
        lowest(BOOLEANS, 256, 1);
        lowest(BOOLEANS, 1L << 32, 1);
        lowest(BOOLEANS, Long.MIN_VALUE, 1);
    }

    private static void read() {
        BearMouse x = new BearMouse();
        x.tape(0, LONGS, 60);
        x.tape(5, BYTES, 1);
        x.item(0, 0, 1L << 40);
        x.item(0, 59, -7);
        x.item(5, 0, -128);
        due.is("read(0, 0)", x.read(0, 0), 1L << 40);
        due.is("read(0, 58)", x.read(0, 58), 0);
        due.is("read(0, 59)", x.read(0, 59), -7);
        due.is("read(0, 60)", x.read(0, 60), NO);
        due.is("read(5, 0)", x.read(5, 0), -128);
        due.is("read(5, 1)", x.read(5, 1), NO);
    }

    // ---- promise 43

    /** TAPE 0: 1 to 6; TAPE 1: 11 to 14; both of a sort. */
    private static BearMouse rows(int sort) {
        BearMouse x = new BearMouse();
        x.tape(0, sort, 6);
        x.tape(1, sort, 4);
        for (int i = 0; i < 6; i++) {
            x.item(0, i, 1 + i);
            x.item(1, i, 11 + i);
        }
        return x;
    }

    private static void rowIs(BearMouse x, int tape, int... want) {
        for (int i = 0; i < want.length; i++) {
            due.is("read(" + tape + ", " + i + ")", x.read(tape, i), want[i]);
        }
        due.is("read(" + tape + ", " + want.length + ")", x.read(tape, want.length), NO);
    }

    private static void shift() {
        for (int sort = BYTES; sort <= LONGS; sort++) {
            BearMouse x = rows(sort);
            due.is("shift(0, 2, 1, 0, 4)", x.shift(0, 2, 1, 0, 4), 4);
            rowIs(x, 1, 3, 4, 5, 6);
            rowIs(x, 0, 1, 2, 3, 4, 5, 6);
            x = rows(sort);
            due.is("shift(1, 0, 0, 2, 4)", x.shift(1, 0, 0, 2, 4), 4);
            rowIs(x, 0, 1, 2, 11, 12, 13, 14);
            x = rows(sort);
            due.is("shift(0, 5, 1, 3, 1)", x.shift(0, 5, 1, 3, 1), 1);
            rowIs(x, 1, 11, 12, 13, 6);
            due.is("shift(0, 0, 1, 0, 0)", x.shift(0, 0, 1, 0, 0), 0);
            due.is("shift(0, 6, 1, 4, 0): at both ends", x.shift(0, 6, 1, 4, 0), 0);
            rowIs(x, 1, 11, 12, 13, 6);
        }
        BearMouse x = rows(BOOLEANS);
        x.item(1, 3, 0);
        due.is("booleans", x.shift(1, 2, 0, 0, 2), 2);
        rowIs(x, 0, 1, 0, 1, 1, 1, 1);
        x.tape(2, BYTES, 0);
        x.tape(3, BYTES, 0);
        due.is("between empty rows", x.shift(2, 0, 3, 0, 0), 0);
    }

    private static void shiftWithin() {
        BearMouse x = rows(INTS);
        due.is("shift(0, 0, 0, 1, 5)", x.shift(0, 0, 0, 1, 5), 5);
        rowIs(x, 0, 1, 1, 2, 3, 4, 5);
        x = rows(INTS);
        due.is("shift(0, 1, 0, 0, 5)", x.shift(0, 1, 0, 0, 5), 5);
        rowIs(x, 0, 2, 3, 4, 5, 6, 6);
        x = rows(INTS);
        due.is("shift(0, 0, 0, 3, 3)", x.shift(0, 0, 0, 3, 3), 3);
        rowIs(x, 0, 1, 2, 3, 1, 2, 3);
        due.is("shift(0, 0, 0, 0, 6)", x.shift(0, 0, 0, 0, 6), 6);
        rowIs(x, 0, 1, 2, 3, 1, 2, 3);
        x.tape(4, SHORTS, 60);
        for (int i = 0; i < 60; i++) {
            x.item(4, i, i);
        }
        due.is("shift(4, 0, 4, 1, 59)", x.shift(4, 0, 4, 1, 59), 59);
        for (int i = 0; i < 60; i++) {
            due.is("read(4, " + i + ")", x.read(4, i), Math.max(0, i - 1));
        }
    }

    private static void noPlace(int tape, int i, int other, int j, int n) {
        BearMouse x = rows(INTS);
        due.is("shift(" + tape + ", " + i + ", " + other + ", " + j + ", " + n + ")", x.shift(tape, i, other, j, n), -13);
        rowIs(x, 0, 1, 2, 3, 4, 5, 6);
        rowIs(x, 1, 11, 12, 13, 14);
    }

    private static void shiftBelow0() {
        for (int below : new int[] {-1, -6, LOW, LOW + 1}) {
            noPlace(0, 0, 1, 0, below);
            noPlace(0, 3, 1, 3, below);
            noPlace(0, below, 1, 0, 1);
            noPlace(0, below, 1, 0, 0);
            noPlace(0, 0, 1, below, 1);
            noPlace(0, 0, 1, below, 0);
            noPlace(0, below, 0, below, below);
        }
    }

    private static void shiftBeyond() {
        noPlace(0, 3, 1, 0, 4);
        noPlace(0, 0, 1, 1, 4);
        noPlace(0, 0, 1, 0, 5);
        noPlace(1, 0, 0, 0, 5);
        noPlace(1, 1, 0, 0, 4);
        noPlace(0, 7, 1, 0, 0);
        noPlace(0, 0, 1, 5, 0);
        noPlace(0, 6, 1, 0, 1);
        noPlace(0, 0, 1, 4, 1);
        noPlace(0, 0, 0, 0, 7);
        noPlace(0, HIGH, 1, 0, 1);
        noPlace(0, HIGH, 1, 0, HIGH);
        noPlace(0, 0, 1, HIGH, 1);
        noPlace(0, 1, 1, 1, HIGH);
        noPlace(0, 6, 1, 4, HIGH);
        noPlace(0, HIGH, 1, HIGH, 0);
    }
}
