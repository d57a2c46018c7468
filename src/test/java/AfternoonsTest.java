/** Promises 29 to 32: an afternoon, how it ends, a book, what is looked at. */
public final class AfternoonsTest {
    private static final Due due = new Due();

    public static void main(String[] args) {
        afternoon();
        ends();
        book();
        looked();
        due.end();
    }

    private static void afternoon() {
        BearMouse x = new BearMouse();
        due.is("afternoon: empty", x.afternoon(-1, 99), 0);
        due.is("afternoon(3, 0)", x.afternoon(3, 0), -1);
        due.is("afternoon(-2, 0)", x.afternoon(-2, 0), -1);
        due.is("afternoon(1, 16)", x.afternoon(1, 16), -1);
        due.is("afternoon(1, -1)", x.afternoon(1, -1), -1);
        due.is("afternoon(2, 16)", x.afternoon(2, 16), -1);
        due.is("afternoon(2, -1)", x.afternoon(2, -1), -1);
        due.is("afternoon(0, 99): n does not matter", x.afternoon(0, 99), 1);
        due.is("afternoon(0, -1)", x.afternoon(0, -1), 2);
        due.is("afternoon(1, 15)", x.afternoon(1, 15), 3);
        due.is("afternoon(2, 15)", x.afternoon(2, 15), 4);
        for (int i = 5; i <= 10; i++) {
            due.is("afternoon: row " + i, x.afternoon(2, 0), i);
        }
        due.is("afternoon: an eleventh", x.afternoon(0, 0), -4);
        due.is("afternoon: NONE ahead of FULL", x.afternoon(1, 16), -1);
        due.is("afternoon: ten", x.count(3), 10);
        due.is("afternoon: empty then", x.afternoon(-1, 0), 0);
        due.is("afternoon: none", x.count(3), 0);
    }

    private static void ends() {
        BearMouse x = new BearMouse();
        x.walker(0, 0, 2);
        x.walker(0, 0, 3);
        Due.fill(x, 20, 5);
        due.is("ends(1): nothing goes", x.ends(1), 25);
        due.is("ends(0): nothing goes", x.ends(0), 0);
        x.afternoon(2, 0);
        due.is("ends(1): stirred", x.ends(1), 25);
        x.afternoon(1, 0);
        due.is("ends(1): milk on what was 1", x.ends(1), 20);
        x.afternoon(0, 0);
        due.is("ends(1): a MINUTE", x.ends(1), 52);
        due.is("ends(0): a MINUTE", x.ends(0), 1);
        x.afternoon(2, 3);
        x.afternoon(2, 7);
        x.afternoon(1, 1);
        due.is("ends(1): nothing in COLUMN 3", x.ends(1), 42);
        Due.brew(x, "milk 30;thick 5 m=0&c=1;spoon 2");
        due.is("ends(1): by another BREW", x.ends(1), 30);
        due.is("ends(0): by another BREW", x.ends(0), 1);
        due.is("ends: nothing is changed", x.told(4), 25);
        due.is("ends: no MINUTE", x.told(0), 0);
        due.is("ends(2)", x.ends(2), -1);
        due.is("ends(-1)", x.ends(-1), -1);
        BearMouse y = new BearMouse();
        y.walker(0, 0, 10);
        Due.fill(y, 10, 10, 0, 0, 0, 0, 0, 10);
        y.set(2, 10);
        y.stir(3, 7);
        due.is("ends: y crosses", y.ends(0), 1);
        y.afternoon(2, 3);
        due.is("ends: 3 is not stirred with 4", y.ends(0), 1);
        y.afternoon(2, 2);
        due.is("ends: 2 with 3, both alike", y.ends(0), 1);
        y.set(2, 0);
        due.is("ends: not by 2", y.ends(0), 0);
    }

    private static void book() {
        BearMouse x = new BearMouse();
        due.is("book: empty", x.book(-1, 100), 0);
        due.is("book(16, 100)", x.book(16, 100), -1);
        due.is("book(-2, 0)", x.book(-2, 0), -1);
        due.is("book(0, 100)", x.book(0, 100), -2);
        due.is("book(0, -1)", x.book(0, -1), -2);
        for (int i = 1; i <= 8; i++) {
            due.is("book: row " + i, x.book(i, 99), i);
        }
        due.is("book: a ninth", x.book(15, 0), -4);
        due.is("book: BAD ahead of FULL", x.book(15, 100), -2);
        due.is("book: NONE ahead of FULL", x.book(16, 0), -1);
        due.is("book: eight", x.count(4), 8);
        due.is("book: empty then", x.book(-1, 5), 0);
        due.is("book: none", x.count(4), 0);
    }

    private static void looked() {
        BearMouse x = new BearMouse();
        due.is("looked: an empty BOOK", x.looked(), -5);
        x.book(15, 0);
        x.book(3, 7);
        x.book(3, 0);
        x.book(4, 0);
        due.is("looked: row 1", x.looked(), 1);
        x.set(3, 7);
        due.is("looked: row 2", x.looked(), 2);
        x.set(15, 1);
        due.is("looked: row 0", x.looked(), 0);
        x.book(-1, 0);
        due.is("looked: none", x.looked(), -5);
        x.book(15, 1);
        x.book(3, 7);
        due.is("looked: all so", x.looked(), -5);
        x.pass(1);
        due.is("looked: otherwise now", x.looked(), 0);
    }
}
