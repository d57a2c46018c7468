import java.util.ArrayList;
import java.util.List;

/** Objects in which there is some of everything, and all that can be found out of one. */
final class Rich {
    static final int WALKERS = 4;
    private static final int[][] ROWS_OF_BOOK = {{0, 13}, {5, 77}, {9, 3}};
    private static final List<Long> MADE = all(made());
    private static final List<Long> FULL = all(full());

    private Rich() {
    }

    /** Of everything some: 4 WALKERS, two BREWS, five TAPES that are not nothing, an IMAGE, a text that is begun. */
    static BearMouse made() {
        BearMouse x = new BearMouse();
        x.walker(6, 3, 20);
        x.walker(0, 1, 12);
        x.walker(4, 5, 17);
        x.walker(2, 0, 30);
        x.line(0, 1, 2);
        Due.brew(x, "milk 4");
        Due.brew(x, "thick 3 s=1&x=1;thin 4 c=9;spoon 6;milk 7");
        Due.fill(x, 7, 30, 25, 18, 40, 33, 99, 0, 12, 22, 31, 8, 50, 5, 61, 70);
        x.pass(3);
        x.print(0x0203);
        x.see(0, false, 2);
        x.see(1, true, 4);
        for (int[] row : new int[][] {{2, 4}, {1, 5}, {0, 0}, {1, 14}}) {
            x.afternoon(row[0], row[1]);
        }
        for (int[] row : ROWS_OF_BOOK) {
            x.book(row[0], row[1]);
        }
        tapes(x);
        x.act(0, 2, 9);
        x.image();
        x.weigh(1, 14);
        x.set(2, 50);
        Due.feed(x, "thin 2 r");
        return x;
    }

    private static void tapes(BearMouse x) {
        x.tape(0, 0, 20);
        x.tape(1, 2, 4);
        x.tape(2, 3, 3);
        x.tape(3, 4, 2);
        x.tape(5, 1, 0);
        for (int i = 0; i < 4; i++) {
            x.item(0, i, x.at(i, 0));
            x.item(1, i, 1000 * i - 1);
            x.item(2, i, Long.MAX_VALUE - i);
            x.item(3, i, i);
        }
    }

    /** Of everything that has a limit as much as there is room for. */
    static BearMouse full() {
        BearMouse x = new BearMouse();
        for (int k = 0; k < 5; k++) {
            x.walker(k, k, 10 + k);
        }
        for (int k = 0; k < 6; k++) {
            Due.brew(x, "milk " + k);
        }
        Due.fill(x, 13, 30, 25, 18, 40, 77, 9, 0, 12, 3, 31, 8, 50, 5, 61, 70);
        for (int k = 0; k < 5; k++) {
            x.see(k, k % 2 == 0, k);
        }
        for (int k = 0; k < 10; k++) {
            x.afternoon(k % 3, k);
        }
        for (int k = 0; k < 8; k++) {
            x.book(ROWS_OF_BOOK[k % 3][0], ROWS_OF_BOOK[k % 3][1]);
        }
        for (int k = 0; k < 100; k++) {
            x.feed(k);
        }
        return x;
    }

    /** Whether all is as in made(); the object is spent then. */
    static boolean isAsMade(BearMouse x) {
        return all(x).equals(MADE);
    }

    /** Whether all is as in full(); the object is spent then. */
    static boolean isAsFull(BearMouse x) {
        return all(x).equals(FULL);
    }

    private static List<Long> all(BearMouse x) {
        List<Long> found = new ArrayList<>();
        around(x, found);
        for (int i = 0; i < 13; i++) {
            found.add((long) x.trace(i));
        }
        for (int tape = 0; tape < 6; tape++) {
            for (int i = 0; i < 5; i++) {
                found.add(x.read(tape, i));
            }
            found.add((long) x.item(tape, 0, 1));
        }
        found.add((long) x.print(0));
        book(x, found);
        found.add((long) x.feed('='));
        found.add((long) x.feed('1'));
        found.add((long) x.brew());
        cells(x, found);
        found.add((long) x.undo());
        counts(x, found);
        cells(x, found);
        return found;
    }

    private static void around(BearMouse x, List<Long> found) {
        counts(x, found);
        cells(x, found);
        for (int w = 0; w < 5; w++) {
            for (int what : new int[] {0, 1, 2, 3, 10, 14, 18, 22}) {
                found.add((long) x.of(w, what));
            }
            for (int what = 0; what < 2; what++) {
                found.add((long) x.heft(w, what));
                found.add((long) x.can(w, what));
            }
            found.add((long) x.way(w, 1));
            found.add((long) x.soon(w));
        }
        for (int what = 0; what < 2; what++) {
            found.add((long) x.ends(what));
            found.add(x.mean(2, what));
        }
    }

    private static void counts(BearMouse x, List<Long> found) {
        for (int what = 0; what < 7; what++) {
            found.add((long) x.count(what));
        }
        for (int what = 0; what < 6; what++) {
            found.add((long) x.told(what));
        }
    }

    private static void cells(BearMouse x, List<Long> found) {
        for (int cell = 0; cell < 16; cell++) {
            found.add((long) x.at(cell, 0));
            found.add((long) x.at(cell, 1));
        }
    }

    /** Rows of the BOOK are found out one behind the other, as those ahead of them become so. */
    private static void book(BearMouse x, List<Long> found) {
        for (int[] row : ROWS_OF_BOOK) {
            found.add((long) x.looked());
            x.set(row[0], row[1]);
        }
        found.add((long) x.looked());
        x.set(0, 14);
        found.add((long) x.looked());
    }
}
