/** What the terms say of all calls: which answer comes first, that it and all asking change nothing, 512 calls. */
public final class AnswersTest {
    private static final Due due = new Due();

    public static void main(String[] args) {
        due.test(0, "An object is used for at most 512 calls after it has been made", AnswersTest::calls512);
        due.test(0, "and changes nothing. CROSS", AnswersTest::askingOnWays);
        due.test(0, "Answers: NONE (-1) no such number;", () -> due.is("NONE", BearMouse.NONE, -1));
        due.test(0, "BAD (-2) a number is not as told;", () -> due.is("BAD", BearMouse.BAD, -2));
        due.test(0, "STATE (-3) as told;", () -> due.is("STATE", BearMouse.STATE, -3));
        due.test(0, "FULL (-4);", () -> due.is("FULL", BearMouse.FULL, -4));
        due.test(0, "the first that a call's words name.", AnswersTest::theFirst);
        due.test(0, "What is answered so changes nothing;", AnswersTest::answeredSo);
        due.test(0, "what is asked changes nothing.", AnswersTest::asked);
        due.test(0, "The constants: `NO = Long.MIN_VALUE`: There is no such number.", () ->
            due.is("NO", BearMouse.NO, -9223372036854775808L));
        due.end();
    }

    /** 512 calls, of which the dearest ones are more than a few. */
    private static void calls512() {
        BearMouse x = new BearMouse();
        int calls = 0;
        for (int k = 0; k < 5; k++, calls++) {
            due.is("walker", x.walker(k, k, 20 + k), k);
        }
        for (int brew = 0; brew < 6; brew++, calls++) {
            String text = "thick " + brew + " c=1";
            for (int i = 0; i < text.length(); i++, calls++) {
                due.is("feed", x.feed(text.charAt(i)), i + 1);
            }
            due.is("brew()", x.brew(), brew);
        }
        int strength = 0;
        for (; calls <= 512 - 2 - 5; calls += 5) {
            due.is("cut", x.cut(calls % 5, 0), 0);
            due.is("heft", x.heft(calls % 5, 0), 100);
            due.is("image", x.image(), 5);
            due.is("undo", x.undo(), 5);
            due.is("set", x.set(9, calls % 90), strength);
            strength = calls % 90;
        }
        for (; calls < 512 - 2; calls++) {
            due.is("told(0)", x.told(0), 0);
        }
        due.is("the 511th", x.pass(60), 60);
        due.is("the 512th", x.at(1, 0), 99);
    }

    private static void askingOnWays() {
        due.asks("on", x -> x.on(60, 0));
        due.asks("on of a CELL", x -> x.on(60, 10));
        for (int w = 0; w < Rich.WALKERS; w++) {
            int walker = w;
            due.asks("of", x -> x.of(walker, 3));
            due.asks("soon", x -> x.soon(walker));
            due.asks("way", x -> x.way(walker, 0));
            due.asks("reach", x -> x.reach(walker, 0, 15));
            due.asks("heaviest", x -> x.heaviest(walker));
            due.asks("cut", x -> x.cut(walker, 0));
            due.asks("which cut", x -> x.cut(walker, 1));
            due.asks("stirred", x -> x.stirred(walker));
            due.asks("meet", x -> x.meet(walker, (walker + 1) % 4));
            due.asks("heft", x -> x.heft(walker, 0));
            due.asks("can", x -> x.can(walker, 1));
            due.asks("odds", x -> x.odds(walker, 0));
        }
        due.asks("was", x -> x.was(5, 50, 20, 0));
        due.asks("mean", x -> x.mean(60, 0));
        due.asks("ends", x -> x.ends(0));
        due.asks("ends of STRENGTH", x -> x.ends(1));
        due.asks("looked", x -> x.looked());
    }

    private static void asked() {
        for (int what = 0; what < 26; what++) {
            int n = what;
            due.asks("of", x -> x.of(0, n));
        }
        for (int what = 0; what < 7; what++) {
            int n = what;
            due.asks("told", x -> x.told(n));
            due.asks("count", x -> x.count(n));
            due.asks("at", x -> x.at(5, n));
            due.asks("taken", x -> x.taken(0, n));
            due.asks("judge", x -> x.judge(n, 0));
            due.asks("read", x -> x.read(n, 0));
            due.asks("trace", x -> x.trace(n));
        }
    }

    /** Calls to which two refusals would fit, and in the end that which is named first. */
    private static void theFirst() {
        due.unchanged("walker: kind, v", -1, x -> x.walker(7, 10, 0));
        due.unchanged("walker: kind, weight", -1, x -> x.walker(-1, 0, 100));
        due.unchangedFull("walker: kind, FULL", -1, x -> x.walker(7, 0, 0));
        due.unchangedFull("walker: v, FULL", -2, x -> x.walker(0, 10, 0));
        due.unchangedFull("walker: weight, FULL", -2, x -> x.walker(0, 0, 100));
        due.unchanged("set: cell, n", -1, x -> x.set(16, 100));
        due.unchanged("weigh: walker, n", -1, x -> x.weigh(4, 100));
        due.unchanged("line: walker, n", -1, x -> x.line(4, 0, 10));
        due.unchanged("line: part, n", -1, x -> x.line(0, 4, 10));
        due.unchanged("line: part, KIND", -1, x -> x.line(1, 4, 0));
        due.unchanged("line: n, KIND", -2, x -> x.line(1, 0, 10));
        due.unchanged("stir: one, not NEXT", -1, x -> x.stir(16, 0));
        due.unchangedFull("feed: sign, FULL", -2, x -> x.feed(128));
        due.unchangedFull("brew: FULL, FAULT", -4, x -> x.brew());
        due.unchanged("on: what, n", -1, x -> x.on(61, 26));
        due.unchanged("meet: walker, one is both", -1, x -> x.meet(4, 4));
        due.unchanged("see: walker, n", -1, x -> x.see(4, true, 21));
        due.unchangedFull("see: walker, FULL", -1, x -> x.see(5, true, 0));
        due.unchangedFull("see: n, FULL", -2, x -> x.see(0, true, 21));
        due.unchanged("was: cell, m", -1, x -> x.was(16, 100, 0, 0));
        due.unchanged("was: what, n", -1, x -> x.was(0, 0, 21, 2));
        due.unchangedFull("afternoon: what, FULL", -1, x -> x.afternoon(3, 0));
        due.unchangedFull("afternoon: CELL, FULL", -1, x -> x.afternoon(1, 16));
        due.unchanged("book: cell, strength", -1, x -> x.book(16, 100));
        due.unchangedFull("book: cell, FULL", -1, x -> x.book(16, 0));
        due.unchangedFull("book: strength, FULL", -2, x -> x.book(0, 100));
        due.unchanged("taken: k, walker", -2, x -> x.taken(4, 7));
        due.unchanged("tape: tape, sort", -1, x -> x.tape(6, 5, 0));
        due.unchanged("tape: tape, SIZE", -1, x -> x.tape(6, 0, -1));
        due.unchanged("tape: sort, SIZE", -2, x -> x.tape(0, 5, -1));
        due.unchanged("item: tape, place", -1, x -> x.item(6, -1, 0));
        due.unchanged("item: NOTHING, place", -11, x -> x.item(4, -1, 0));
        due.unchanged("shift: tape, NOTHING", -1, x -> x.shift(4, 0, 6, 0, 0));
        due.unchanged("shift: NOTHING, PLACE", -11, x -> x.shift(4, -1, 0, 0, 0));
        due.unchanged("shift: CAST, PLACE", -12, x -> x.shift(0, -1, 1, 0, 0));
        due.unchanged("judge: tape, place", -1, x -> x.judge(6, -1));
        due.unchanged("judge: CAST, place", -12, x -> x.judge(1, -1));
        BearMouse late = new BearMouse();
        for (int k = 0; k < 166; k++) {
            late.pass(60);
        }
        due.is("pass: n, above 9999", late.pass(61), -2);
    }

    /** Also where nothing at all is there. */
    private static void answeredSo() {
        BearMouse x = new BearMouse();
        due.is("undo()", x.undo(), -3);
        due.is("walker", x.walker(7, 0, 0), -1);
        due.is("weigh", x.weigh(0, 0), -1);
        due.is("line", x.line(0, 0, 0), -1);
        due.is("see", x.see(0, true, 0), -1);
        due.is("brew()", x.brew(), -10);
        due.is("feed", x.feed(128), -2);
        due.is("book", x.book(16, 0), -1);
        due.is("afternoon", x.afternoon(3, 0), -1);
        due.is("tape", x.tape(0, 0, -1), -14);
        due.is("item", x.item(0, 0, 1), -11);
        due.is("print", x.print(-1), -2);
        due.is("pass", x.pass(61), -2);
        for (int what = 0; what < 7; what++) {
            due.is("count(" + what + ")", x.count(what), 0);
        }
        due.is("told(0)", x.told(0), 0);
        due.is("told(4)", x.told(4), 0);
        due.is("print(0)", x.print(0), 0);
        due.is("judge(0, 0)", x.judge(0, 0), 100);
        due.is("undo() then", x.undo(), -3);
        due.unchangedFull("walker", -4, y -> y.walker(0, 0, 0));
        due.unchangedFull("feed", -4, y -> y.feed(0));
        due.unchangedFull("brew()", -4, y -> y.brew());
        due.unchangedFull("see", -4, y -> y.see(0, true, 0));
        due.unchangedFull("afternoon", -4, y -> y.afternoon(0, 0));
        due.unchangedFull("book", -4, y -> y.book(0, 0));
    }
}
