/** Promises 33 to 35: strengths told by a tape, the image, undoing. */
public final class JudgingTest {
    private static final Due due = new Due();

    public static void main(String[] args) {
        judge();
        image();
        undo();
        due.end();
    }

    private static void judge() {
        BearMouse x = new BearMouse();
        due.is("judge(6, 0)", x.judge(6, 0), -1);
        due.is("judge(-1, 0)", x.judge(-1, 0), -1);
        due.is("judge: nothing there", x.judge(0, 0), 100);
        due.is("judge: nothing there, place -1", x.judge(0, -1), 100);
        for (int sort = 1; sort <= 4; sort++) {
            x.tape(1, sort, 20);
            due.is("judge: sort " + sort, x.judge(1, 0), -12);
            due.is("judge: sort " + sort + ", place -1", x.judge(1, -1), -12);
        }
        x.tape(0, 0, 0);
        due.is("judge: an empty row", x.judge(0, 0), 100);
        x.tape(0, 0, 18);
        due.is("judge: from 0", x.judge(0, 0), -5);
        due.is("judge: from 2, to the very end", x.judge(0, 2), -5);
        due.is("judge: from 3", x.judge(0, 3), 115);
        due.is("judge: from 17", x.judge(0, 17), 101);
        due.is("judge: from 18", x.judge(0, 18), 100);
        due.is("judge: from far", x.judge(0, Integer.MAX_VALUE), 100);
        due.is("judge: from -1", x.judge(0, -1), 100);
        due.is("judge: from very far below", x.judge(0, Integer.MIN_VALUE), 100);
        for (int cell = 0; cell < 16; cell++) {
            x.set(cell, 10 + cell);
        }
        due.is("judge: the first", x.judge(0, 0), 0);
        for (int cell = 0; cell < 16; cell++) {
            x.item(0, 2 + cell, 10 + cell);
        }
        due.is("judge: as told", x.judge(0, 2), -5);
        x.item(0, 2 + 15, 24);
        due.is("judge: the last", x.judge(0, 2), 15);
        x.item(0, 2 + 6, 15);
        due.is("judge: the first of two", x.judge(0, 2), 6);
        x.item(0, 2, 10 + 256);
        due.is("judge: bytes", x.judge(0, 2), 6);
        x.tape(0, 0, 3);
        x.item(0, 0, 10);
        x.item(0, 1, 11);
        due.is("judge: otherwise ahead of the end", x.judge(0, 0), 2);
        x.item(0, 2, 12);
        due.is("judge: the row ends", x.judge(0, 0), 103);
    }

    private static void image() {
        BearMouse x = new BearMouse();
        due.is("image: nobody", x.image(), 0);
        x.walker(0, 0, 0);
        x.walker(0, 0, 0);
        due.is("image: two", x.image(), 2);
        due.is("image: changes nothing", x.count(0), 2);
        x.walker(0, 0, 0);
        due.is("undo: two", x.undo(), 2);
        due.is("undo: two again", x.undo(), 2);
        due.is("undo: two are there", x.count(0), 2);
        for (int i = 2; i < 5; i++) {
            x.walker(0, 0, 0);
        }
        due.is("image: five", x.image(), 5);
        x.weigh(4, 77);
        due.is("undo: five", x.undo(), 5);
        due.is("undo: the fifth", x.of(4, 2), 0);
    }

    private static BearMouse rich() {
        BearMouse x = new BearMouse();
        Due.brew(x, "milk 1");
        Due.brew(x, "milk 2");
        x.walker(6, 3, 40);
        x.line(0, 1, 5);
        x.walker(0, 1, 30);
        x.set(9, 33);
        x.pass(3);
        x.print(0x0202);
        x.see(0, true, 4);
        x.see(1, false, 2);
        x.afternoon(1, 9);
        x.afternoon(0, 0);
        x.book(9, 39);
        x.book(0, 7);
        return x;
    }

    private static void asRich(BearMouse x, String when) {
        due.is(when + "WALKERS", x.count(0), 2);
        due.is(when + "KIND", x.of(0, 0), 6);
        due.is(when + "v", x.of(0, 1), 3);
        due.is(when + "WEIGHT", x.of(0, 2), 40);
        due.is(when + "LINE", x.of(0, 14), 48);
        due.is(when + "LINE at ROW 0", x.of(0, 10), 43);
        due.is(when + "the second", x.of(1, 2), 30);
        due.is(when + "CELL 9", x.at(9, 0), 39);
        due.is(when + "CELL 0", x.at(0, 0), 6);
        due.is(when + "MINUTE", x.told(0), 3);
        due.is(when + "MILK", x.told(2), 2);
        due.is(when + "SEEN", x.count(2), 2);
        due.is(when + "AFTERNOON", x.count(3), 2);
        due.is(when + "ENDS", x.ends(1), 15 * 6 + 37 + 32);
        due.is(when + "BOOK", x.count(4), 2);
        due.is(when + "LOOKED", x.looked(), 1);
        due.is(when + "HEFT of 1", x.heft(1, 0), 0);
        due.is(when + "PRINTS", x.print(0x0202), 0x0202);
    }

    private static void spoil(BearMouse x) {
        Due.brew(x, "milk 3;thick 9 c=9");
        x.walker(1, 9, 9);
        x.walker(6, 9, 9);
        for (int row = 0; row < 4; row++) {
            x.line(3, row, 8);
        }
        x.weigh(0, 0);
        x.line(0, 1, 0);
        x.line(0, 0, 9);
        x.pass(7);
        Due.fillAll(x, 50);
        x.print(1);
        x.see(-1, true, 0);
        x.see(2, false, 0);
        x.afternoon(-1, 0);
        x.afternoon(2, 2);
        x.book(-1, 0);
        x.book(3, 3);
        x.tape(4, 2, 2);
        x.item(4, 1, 77);
        x.act(2, 1, 5);
        Due.feed(x, "sp");
    }

    private static void undo() {
        BearMouse x = rich();
        asRich(x, "ahead: ");
        due.is("undo: no IMAGE", x.undo(), -3);
        x.image();
        spoil(x);
        due.is("spoiled: MILK", x.told(2), 3);
        due.is("undo()", x.undo(), 2);
        asRich(x, "undone: ");
        due.is("undo: BREWS stay", x.count(1), 3);
        due.is("undo: THE TEXT stays", x.count(5), 2);
        due.is("undo: TAPES stay", x.read(4, 1), 77);
        due.is("undo: THE TRACE stays", x.count(6), 3);
        due.is("undo: THE TRACE's first", x.trace(0), 20);
        due.is("undo: the next WALKER", x.walker(6, 0, 10), 2);
        due.is("undo: its LINE is its own", x.line(2, 1, 1), 0);
        due.is("undo: the one behind it", x.walker(6, 0, 10), 3);
        for (int row = 0; row < 4; row++) {
            due.is("undo: its LINE is its own at ROW " + row, x.line(3, row, 1), 0);
        }
        x.weigh(0, 1);
        x.line(0, 1, 9);
        x.see(1, true, 0);
        due.is("undo() again", x.undo(), 2);
        asRich(x, "undone again: ");
        Due.feed(x, "oon 4");
        due.is("undo: the next BREW's number", x.brew(), 3);
        x.undo();
        due.is("undo: which BREW holds", x.told(1), -5);
        due.is("undo: the second BREW's MILK", x.told(2), 2);
        BearMouse y = new BearMouse();
        y.image();
        Due.brew(y, "milk 5;spoon 1");
        y.undo();
        due.is("undo: no BREW holds, MILK", y.told(2), 10);
        due.is("undo: no BREW holds, SPOON", y.told(1), -5);
        due.is("undo: but there is one", y.count(1), 1);
    }
}
