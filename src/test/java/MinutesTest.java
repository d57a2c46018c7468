/** Promises 13 to 15: minutes that go, what will be, how soon. */
public final class MinutesTest {
    private static final Due due = new Due();

    public static void main(String[] args) {
        pass();
        on();
        soon();
        due.end();
    }

    private static void pass() {
        BearMouse x = new BearMouse();
        due.is("pass(-1)", x.pass(-1), -2);
        due.is("pass(61)", x.pass(61), -2);
        due.is("pass(0)", x.pass(0), 0);
        due.is("pass(1)", x.pass(1), 1);
        due.is("pass: STRENGTH", x.at(7, 0), 2);
        due.is("pass(60)", x.pass(60), 61);
        due.is("pass: 99 at most", x.at(7, 0), 99);
        Due.brew(x, "thin 52 c=3;thick 1 m<5");
        Due.fillAll(x, 50);
        x.pass(1);
        due.is("pass: as all is ahead of it, MINUTE 61", x.at(0, 0), 53);
        due.is("pass: thinner", x.at(3, 0), 1);
        x.pass(1);
        due.is("pass: 0 at least", x.at(3, 0), 0);
        x.pass(3);
        due.is("pass: MINUTES 61 to 64 were below 5, 65 not", x.at(0, 0), 50 + 4 * 3 + 2);
        BearMouse y = new BearMouse();
        for (int i = 0; i < 166; i++) {
            y.pass(60);
        }
        due.is("pass: to the end", y.pass(40), -3);
        due.is("pass: BAD ahead of STATE", y.pass(61), -2);
        due.is("pass: 9960", y.told(0), 9960);
        due.is("pass(39)", y.pass(39), 9999);
        due.is("pass(0) at the end", y.pass(0), 9999);
        due.is("pass(1) at the end", y.pass(1), -3);
        y.set(0, 0);
        due.is("on: beyond 9999", y.on(60, 10), 99);
        due.is("on: a few beyond 9999", y.on(3, 10), 6);
        y.walker(0, 0, 50);
        Due.fillAll(y, 0);
        due.is("soon: beyond 9999", y.soon(0), 25);
        y.afternoon(0, 0);
        due.is("ends: beyond 9999", y.ends(1), 32);
        Due.brew(y, "thick 5 m=0;thick 30 m=1");
        due.is("on: m is 9, 0, 1", y.on(3, 10), 2 + 7 + 32);
        due.is("asking changes no MINUTE", y.told(0), 9999);
    }

    private static void on() {
        BearMouse x = new BearMouse();
        x.walker(0, 0, 10);
        x.walker(0, 0, 99);
        Due.brew(x, "thick 30 s=3&c=0");
        x.set(0, 27);
        due.is("on(0, 10)", x.on(0, 10), 27);
        due.is("on(1, 10)", x.on(1, 10), 29);
        due.is("on(2, 10)", x.on(2, 10), 31);
        due.is("on(3, 10)", x.on(3, 10), 63);
        due.is("on(4, 10)", x.on(4, 10), 65);
        due.is("on(60, 25)", x.on(60, 25), 99);
        due.is("on(4, 0)", x.on(4, 0), 0);
        due.is("on(5, 0)", x.on(5, 0), 1);
        due.is("on(60, 0)", x.on(60, 0), 3);
        due.is("on(61, 0)", x.on(61, 0), -2);
        due.is("on(-1, 25)", x.on(-1, 25), -2);
        due.is("on(61, 26): NONE ahead", x.on(61, 26), -1);
        due.is("on(0, 1)", x.on(0, 1), -1);
        due.is("on(0, 9)", x.on(0, 9), -1);
        due.is("on(0, -1)", x.on(0, -1), -1);
        due.is("on: nothing is changed", x.at(0, 0), 27);
        due.is("on: no MINUTE", x.told(0), 0);
    }

    private static void soon() {
        BearMouse x = new BearMouse();
        due.is("soon: nobody", x.soon(0), -1);
        x.walker(0, 0, 0);
        x.walker(0, 0, 1);
        x.walker(2, 0, 3);
        x.walker(3, 9, 91);
        x.walker(5, 0, 30);
        due.is("soon(0)", x.soon(0), 0);
        due.is("soon(1)", x.soon(1), 1);
        due.is("soon(2): half in ROW 0", x.soon(2), 1);
        due.is("soon(3): 100 is never borne", x.soon(3), -5);
        due.is("soon(4): 30 in ROW 0", x.soon(4), 15);
        due.is("soon(5)", x.soon(5), -1);
        due.is("soon(-1)", x.soon(-1), -1);
        Due.brew(x, "thin 1 c<16");
        x.weigh(0, 60);
        due.is("soon: 60 is not too late", x.soon(0), 60);
        x.weigh(0, 61);
        due.is("soon: 61 is", x.soon(0), -5);
        due.is("soon: nothing is changed", x.told(4), 0);
    }
}
