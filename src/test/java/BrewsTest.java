/** Promises 10 to 12: the text, brews, what is told of all. */
public final class BrewsTest {
    private static final Due due = new Due();

    public static void main(String[] args) {
        feed();
        faults();
        faultsBehindOthers();
        whole();
        tests();
        numbersOfBrews();
        told();
        due.end();
    }

    private static void feed() {
        BearMouse x = new BearMouse();
        due.is("feed(-1)", x.feed(-1), -2);
        due.is("feed(128)", x.feed(128), -2);
        for (int i = 1; i <= 100; i++) {
            due.is("feed: sign " + i, x.feed(i == 1 ? 0 : 127), i);
        }
        due.is("feed: beyond 100", x.feed(50), -4);
        due.is("feed: BAD ahead of FULL", x.feed(128), -2);
        due.is("feed: still 100", x.count(5), 100);
        due.is("feed: a sign 0 begins no BREW", x.brew(), -10);
        due.is("feed: empty then", x.count(5), 0);
        due.is("feed: from the start again", x.feed(109), 1);
    }

    private static void fault(String text, int place) {
        BearMouse x = new BearMouse();
        Due.brew(x, "milk 7");
        due.is("FAULT of " + text, Due.brew(x, text), -10 - place);
        due.is("the one that held holds, by " + text, x.told(2), 7);
        due.is("no BREW comes by " + text, x.count(1), 1);
        due.is("THE TEXT is empty behind " + text, x.count(5), 0);
    }

    private static void faults() {
        fault("", 0);
        fault("x", 0);
        fault(" milk 1", 0);
        fault("tn", 1);
        fault("ti", 1);
        fault("thxck 1 c=1", 2);
        fault("thi", 3);
        fault("thim", 3);
        fault("thinn", 4);
        fault("thic 1", 4);
        fault("thickk", 5);
        fault("thick", 5);
        fault("thick ", 6);
        fault("thick  1 c=1", 6);
        fault("thick -1 c=1", 6);
        fault("thick 1", 7);
        fault("thick 1;", 7);
        fault("thick 100 c=1", 8);
        fault("thick 10", 8);
        fault("thick 10 ", 9);
        fault("thick 1  c=1", 8);
        fault("thick 1 C=1", 8);
        fault("thick 1 q=1", 8);
        fault("thick 1 c", 9);
        fault("thick 1 c1", 9);
        fault("thick 1 c!1", 9);
        fault("thick 1 c=", 10);
        fault("thick 1 c=c", 10);
        fault("thick 1 c=123", 12);
        fault("thick 1 c=1 ", 11);
        fault("thick 1 c=1)", 11);
        fault("thick 1 c=1||c=2", 12);
        fault("thick 1 c=1|", 12);
        fault("thick 1 c=1&", 12);
        fault("thick 1 c=1&&", 12);
        fault("thick 1 |c=1", 8);
        fault("thick 1 )", 8);
        fault("thick 1 ()", 9);
        fault("thick 1 (c=1", 12);
        fault("thick 1 (c=1;milk 1", 12);
        fault("thick 1 (c=1))", 13);
        fault("thick 1 (c=1)c=1", 13);
        fault("thick 1 (c=1)(c=1)", 13);
        fault("thick 1 !", 9);
        fault("thick 1 !)", 9);
        fault("thick 1 c!=1", 9);
        fault("thick 1 (((((c=1)))))", 12);
        fault("thick 1 !!!!!c=1", 12);
        fault("thick 1 !(!(!c=1))", 12);
        fault("thick 1 ((((!c=1))))", 12);
        fault("thick 1 !!!!(c=1)", 12);
        fault("spool 1", 4);
        fault("spoon", 5);
        fault("spoon ", 6);
        fault("spoon x", 6);
        fault("spoon 1 c=1", 7);
        fault("spoon 123", 8);
        fault("milk", 4);
        fault("milk 1 ", 6);
        fault("milk 1;", 7);
        fault("milk 1;;", 7);
        fault("milk 1; milk 2", 7);
        fault("milk 1,", 6);
        fault(";milk 1", 0);
        fault("milk 0;milk 1;milk 2;milk 3;milk 4;milk 5;milk 6;milk 7;milk 8;milk 9;", 69);
        fault("milk 0;milk 1;milk 2;milk 3;milk 4;milk 5;milk 6;milk 7;milk 8;milk 9;milk 1", 69);
    }

    /** What an earlier text left behind is not read again. */
    private static void faultsBehindOthers() {
        BearMouse x = new BearMouse();
        due.is("behind nothing", Due.brew(x, "thick 1 c=1?"), -21);
        due.is("too early", Due.brew(x, "thick 1 "), -18);
        due.is("too early again", Due.brew(x, "thick 1 c"), -19);
        due.is("too early once more", Due.brew(x, "thick 1 c="), -20);
        due.is("behind faults", Due.brew(x, "thick 1 c=1"), 0);
        due.is("too early behind a whole one", Due.brew(x, "thick "), -16);
        Due.feed(x, "thick 1 ");
        for (int i = 0; i < 23; i++) {
            Due.feed(x, "c=0|");
        }
        due.is("100 signs", x.count(5), 100);
        due.is("too early at 100", x.brew(), -110);
    }

    private static void grows(String text, int... want) {
        BearMouse x = new BearMouse();
        due.is("brew() of " + text, Due.brew(x, text), 0);
        for (int cell = 0; cell < want.length; cell++) {
            due.is(text + ": GROWS of " + cell, x.at(cell, 1), want[cell]);
        }
    }

    private static void whole() {
        grows("thick 5 c=2", 2, 2, 7, 2);
        grows("thick 05 c=02", 2, 2, 7, 2);
        grows("thin 9 c<2", -7, -7, 2, 2);
        grows("thick 99 c>1;thin 1 c>2", 2, 2, 101, 100);
        grows("thick 1 c=0|c=1&c=2", 3, 2, 2, 2);
        grows("thick 1 c=1&c=2|c=0", 3, 2, 2, 2);
        grows("thick 1 (c=0|c=1)&c<1", 3, 2, 2, 2);
        grows("thick 1 !c=0&c<2", 2, 3, 2, 2);
        grows("thick 1 !c=0|c=0", 3, 3, 3, 3);
        grows("thick 1 !(c=0|c=1)", 2, 2, 3, 3);
        grows("thick 1 !!c=0", 3, 2, 2, 2);
        grows("thick 1 !(!(c=0|c=3))", 3, 2, 2, 3);
        grows("thick 1 ((((c=3))))", 2, 2, 2, 3);
        grows("thick 1 !!!!c=3", 2, 2, 2, 3);
        grows("thick 1 !!!!c=3&((((c=3))))", 2, 2, 2, 3);
        grows("thick 1 (((c=0)|!(c<3)))", 3, 2, 2, 3);
        grows("thick 1 c=0;thick 2 c=0;thin 4 c=0;thick 8 c=1", 1, 10, 2, 2);
        grows("milk 0;milk 1;milk 2;milk 3;milk 4;milk 5;milk 6;milk 7;milk 8;milk 9", 2);
        grows("thick 0 c=0", 2);
        grows("thick 1 c=0|c=1|c=2|c=0|c=1|c=2|c=0|c=1|c=2|c=0|c=1|c=2|c=0|c=1|c=2|c=0|c=1|c=2|c=0|c=1|c=2|c=0|c=3", 3, 3, 3, 3);
    }

    /** The CELLS for which a TEST holds. */
    private static int held(BearMouse x, String test) {
        due.holds(test + " is whole", Due.brew(x, "thick 1 " + test) >= 0);
        int cells = 0;
        for (int cell = 0; cell < 16; cell++) {
            cells |= x.at(cell, 1) - 2 << cell;
        }
        return cells;
    }

    private static void tests() {
        BearMouse x = new BearMouse();
        due.is("c>13", held(x, "c>13"), 0xC000);
        due.is("r=1", held(x, "r=1"), 0x00F0);
        due.is("r>1", held(x, "r>1"), 0xFF00);
        due.is("x=2", held(x, "x=2"), 0x4444);
        due.is("x<1", held(x, "x<1"), 0x1111);
        due.is("b=1", held(x, "b=1"), 0xF99F);
        x = new BearMouse();
        due.is("b=0", held(x, "b=0"), 0x0660);
        Due.fill(x, 9, 10, 19, 20, 99);
        due.is("s=1", held(x, "s=1"), 0x0006);
        due.is("s>1", held(x, "s>1"), 0x0018);
        due.is("s=9", held(x, "s=9"), 0x0010);
        due.is("s<1", held(x, "s<1"), 0xFFE1);
        due.is("m=0", held(x, "m=0"), 0xFFFF);
        x = new BearMouse();
        x.pass(13);
        due.is("m=3 at 13", held(x, "m=3"), 0xFFFF);
        due.is("m=13 at 13", held(x, "m=13"), 0);
        x.pass(6);
        due.is("m=3 at 19", held(x, "m=3"), 0);
        due.is("m>8 at 19", held(x, "m>8"), 0xFFFF);
        x.pass(1);
        due.is("m<1 at 20", held(x, "m<1"), 0xFFFF);
    }

    private static void numbersOfBrews() {
        BearMouse x = new BearMouse();
        for (int i = 0; i < 6; i++) {
            due.is("brew " + i, Due.brew(x, "milk " + i), i);
            due.is("brew " + i + " holds", x.told(2), i);
            due.is("brews", x.count(1), i + 1);
        }
        due.is("a seventh", Due.brew(x, "milk 9"), -4);
        due.is("THE TEXT stays", x.count(5), 6);
        due.is("FULL ahead of a FAULT", Due.brew(x, "x"), -4);
        due.is("THE TEXT stays again", x.count(5), 7);
        due.is("the sixth holds", x.told(2), 5);
    }

    private static void told() {
        BearMouse x = new BearMouse();
        due.is("told(-1)", x.told(-1), -1);
        due.is("told(6)", x.told(6), -1);
        due.is("told(5): nobody", x.told(5), 0);
        x.walker(0, 0, 20);
        x.walker(1, 0, 40);
        x.walker(0, 0, 0);
        due.is("told(3)", x.told(3), 4);
        due.is("told(5): no PRINTS, all", x.told(5), 7);
        Due.fill(x, 40, 20, 40, 40);
        due.is("told(3), then", x.told(3), 7);
        due.is("told(4)", x.told(4), 140);
        x.print(0x000D);
        due.is("told(5)", x.told(5), 7);
        x.print(0x000F);
        due.is("told(5): 1 does not bear the SHREW", x.told(5), 5);
        x.print(0x800F);
        due.is("told(5): 15 bears one alone", x.told(5), 4);
        Due.brew(x, "spoon 15");
        due.is("told(1)", x.told(1), 15);
        due.is("told(5): the SPOON bears nobody", x.told(5), 0);
        Due.brew(x, "spoon 3;spoon 16");
        due.is("told(1): from 16 on nowhere", x.told(1), -5);
        Due.brew(x, "spoon 3;milk 44;spoon 0;milk 0");
        due.is("told(1): the last one", x.told(1), 0);
        due.is("told(2): the last one", x.told(2), 0);
        Due.brew(x, "thick 1 c=1");
        due.is("told(1): without", x.told(1), -5);
        due.is("told(2): without", x.told(2), 10);
        x.pass(4);
        due.is("told(0)", x.told(0), 4);
    }
}
