/** Runs of calls, the same ones each time, on BearMouse and on the Model: every answer is compared. */
public final class ModelTest {
    private static final int RUNS = 100;
    private static final int CALLS = 512;
    private static final int[] EDGES = {
        Integer.MIN_VALUE, Integer.MIN_VALUE + 1, -100, -3, -2, -1, 0, 1, 2, 3, 4, 5, 6, 7, 8, 9, 10, 15, 16, 19, 20, 21,
        25, 26, 59, 60, 61, 99, 100, 127, 128, 65535, 65536, Integer.MAX_VALUE - 1, Integer.MAX_VALUE
    };

    private final Due due;
    private final int run;
    private long seed;
    private final BearMouse x = new BearMouse();
    private final Model m = new Model();
    private int calls;
    /** How heavy walkers are here, and how seldom numbers are wild: else few runs would ever see a crossing. */
    private final int heavy;

    private ModelTest(Due due, int run) {
        this.due = due;
        this.run = run;
        seed = run * 7919L + 13;
        heavy = 10 + below(60);
    }

    public static void main(String[] args) {
        Due due = new Due();
        for (int run = 0; run < RUNS; run++) {
            new ModelTest(due, run).go();
        }
        texts(due);
        due.end();
    }

    /** BREWS alone: many texts, whole ones and broken ones. */
    private static void texts(Due due) {
        ModelTest t = new ModelTest(due, 100000);
        for (int k = 0; k < 4000; k++) {
            BearMouse x = new BearMouse();
            Model m = new Model();
            String text = t.text();
            for (int i = 0; i < text.length(); i++) {
                x.feed(text.charAt(i));
                m.feed(text.charAt(i));
            }
            due.is("brew() of " + text, x.brew(), m.brew());
            due.is("SPOON of " + text, x.told(1), m.told(1));
            due.is("MILK of " + text, x.told(2), m.told(2));
            for (int cell = 0; cell < 16; cell++) {
                int n = t.below(100);
                x.set(cell, n);
                m.set(cell, n);
            }
            int minutes = t.below(12);
            x.pass(minutes);
            m.pass(minutes);
            for (int cell = 0; cell < 16; cell++) {
                due.is(text + ": STRENGTH of " + cell, x.at(cell, 0), m.at(cell, 0));
                due.is(text + ": GROWS of " + cell, x.at(cell, 1), m.at(cell, 1));
            }
        }
    }

    private int below(int n) {
        seed = seed * 6364136223846793005L + 1442695040888963407L;
        return (int) ((seed >>> 33) % n);
    }

    private int edge() {
        return EDGES[below(EDGES.length)];
    }

    /** Mostly below n, now and then anything. */
    private int some(int n) {
        return below(25) == 0 ? edge() : below(n);
    }

    private void is(String call, long got, long want) {
        calls++;
        due.is("run " + run + ", call " + calls + ": " + call, got, want);
    }

    private void go() {
        for (int k = 0; k < 3; k++) {
            walker();
        }
        for (int cell = 0; cell < 16; cell++) {
            set(cell, below(100));
        }
        if (run % 4 != 0) {
            brew();
        }
        while (calls < CALLS - 110) {
            switch (below(12)) {
                case 0: change(); break;
                case 1: cells(); break;
                case 2: case 3: rows(); break;
                case 4: tapes(); break;
                case 5: acts(); break;
                default: ask(below(22));
            }
        }
    }

    private void walker() {
        int kind = some(7);
        int v = some(10);
        int weight = some(heavy);
        is("walker(" + kind + ", " + v + ", " + weight + ")", x.walker(kind, v, weight), m.walker(kind, v, weight));
    }

    private void set(int cell, int n) {
        is("set(" + cell + ", " + n + ")", x.set(cell, n), m.set(cell, n));
    }

    private void brew() {
        String text = text();
        for (int i = 0; i < text.length() && calls < CALLS - 2; i++) {
            is("feed " + text.charAt(i), x.feed(text.charAt(i)), m.feed(text.charAt(i)));
        }
        is("brew() of " + text, x.brew(), m.brew());
    }

    private String text() {
        StringBuilder out = new StringBuilder();
        int clauses = below(12) == 0 ? 9 + below(3) : 1 + below(4);
        for (int k = 0; k < clauses; k++) {
            out.append(k == 0 ? "" : ";");
            switch (clauses > 4 ? 2 + below(2) : below(5)) {
                case 0: case 4: out.append("thick ").append(number(below(8) == 0 ? 100 : 7)).append(' ').append(e(0)); break;
                case 1: out.append("thin ").append(number(below(8) == 0 ? 100 : 9)).append(' ').append(e(0)); break;
                case 2: out.append("spoon ").append(number(22)); break;
                default: out.append("milk ").append(number(100)); break;
            }
        }
        if (below(3) == 0) {
            int at = below(out.length() + 1);
            String signs = "()!&|;<=>crxsbm0123456789 thinkspoonmilk~";
            switch (below(3)) {
                case 0: out.setLength(at); break;
                case 1: out.insert(at, signs.charAt(below(signs.length()))); break;
                default: out.replace(at, Math.min(out.length(), at + 1), "" + signs.charAt(below(signs.length())));
            }
        }
        return out.length() > 100 ? out.substring(0, 100) : out.toString();
    }

    private String number(int n) {
        int k = below(n);
        return k < 10 && below(4) == 0 ? "0" + k : "" + k;
    }

    private String e(int depth) {
        StringBuilder out = new StringBuilder(f(depth));
        while (below(3) == 0 && out.length() < 30) {
            out.append(below(2) == 0 ? '&' : '|').append(f(depth));
        }
        return out.toString();
    }

    private String f(int depth) {
        int kind = below(6);
        if (kind == 0 && depth < 6) {
            return "!" + f(depth + 1);
        }
        if (kind == 1 && depth < 6) {
            return "(" + e(depth + 1) + ")";
        }
        int letter = below(6);
        return "" + "crxsbm".charAt(letter) + "<=>".charAt(below(3)) + number(letter == 0 ? 16 : letter < 3 ? 4 : 10);
    }

    private void change() {
        int w = some(5);
        int n = some(100);
        switch (below(6)) {
            case 0: walker(); break;
            case 1: is("weigh", x.weigh(w, n), m.weigh(w, n)); break;
            case 2: is("line", x.line(w, n % 5, n % 11), m.line(w, n % 5, n % 11)); break;
            case 3: is("image", x.image(), m.image()); break;
            case 4: is("undo", x.undo(), m.undo()); break;
            default:
                if (calls < CALLS / 2 && below(3) == 0) {
                    brew();
                } else {
                    is("pass " + n, x.pass(n % 8), m.pass(n % 8));
                }
        }
    }

    private void cells() {
        int a = some(16);
        int b = some(16);
        switch (below(4)) {
            case 0: set(a, some(100)); break;
            case 1: is("milk " + a, x.milk(a), m.milk(a)); break;
            case 2: is("stir " + a + " " + b, x.stir(a, b), m.stir(a, b)); break;
            default: is("stir " + a, x.stir(a, a + 1), m.stir(a, a + 1));
        }
    }

    private void rows() {
        int a = some(16);
        int w = some(5);
        int n = some(100);
        int strength = Math.max(0, m.at(a, 0));
        boolean so = below(2) == 0;
        switch (below(8)) {
            case 0: case 1: is("see", x.see(w, so, n % 22), m.see(w, so, n % 22)); break;
            case 2: case 3: is("afternoon", x.afternoon(w % 4, a), m.afternoon(w % 4, a)); break;
            case 4: is("book", x.book(a, strength), m.book(a, strength)); break;
            case 5: is("book " + a + " " + n, x.book(a, n), m.book(a, n)); break;
            case 6: is("print " + n, x.print(1 << a | n), m.print(1 << a | n)); break;
            default: none(below(10), n, so);
        }
    }

    private void none(int which, int n, boolean so) {
        switch (which) {
            case 0: case 1: case 2: is("see none", x.see(-1, so, n), m.see(-1, so, n)); break;
            case 3: is("afternoon none", x.afternoon(-1, n), m.afternoon(-1, n)); break;
            case 4: is("book none", x.book(-1, n), m.book(-1, n)); break;
            case 5: is("print none", x.print(0), m.print(0)); break;
            default: is("print one", x.print(1 << n), m.print(1 << n));
        }
    }

    private void tapes() {
        int tape = some(6);
        int other = some(6);
        int i = some(20);
        int j = some(20);
        int n = some(20);
        int sort = below(3) == 0 ? some(6) - 1 : 0;
        int strength = Math.max(0, m.at(i, 0));
        long v = below(2) == 0 ? seed : strength;
        switch (below(8)) {
            case 0: is("tape", x.tape(tape, sort, n), m.tape(tape, sort, n)); break;
            case 1: is("tape", x.tape(tape, sort, 3 * n), m.tape(tape, sort, 3 * n)); break;
            case 2: is("item " + v, x.item(tape, i, v), m.item(tape, i, v)); break;
            case 3: is("read", x.read(tape, i), m.read(tape, i)); break;
            case 4: is("shift", x.shift(tape, i, other, j, n), m.shift(tape, i, other, j, n)); break;
            case 5: is("shift", x.shift(tape, i, tape, j, n), m.shift(tape, i, tape, j, n)); break;
            case 6: is("judge", x.judge(tape, i), m.judge(tape, i)); break;
            default: told(below(6), below(3));
        }
    }

    /** A row of bytes that tells STRENGTH as it is, or nearly. */
    private void told(int tape, int from) {
        int n = 10 + below(12);
        is("tape", x.tape(tape, 0, n), m.tape(tape, 0, n));
        int cells = Math.min(n - from, below(3) == 0 ? below(17) : 16);
        for (int c = 0; c < cells && c < 16; c++) {
            is("item", x.item(tape, from + c, m.at(c, 0)), m.item(tape, from + c, m.at(c, 0)));
        }
        is("judge", x.judge(tape, from), m.judge(tape, from));
    }

    private void acts() {
        int w = some(5);
        int act = some(3);
        int v = below(3) == 0 ? (int) seed : some(100);
        is("act " + w + " " + act + " " + v, x.act(w, act, v), m.act(w, act, v));
        for (int i = 0; i < below(16); i++) {
            is("trace " + i, x.trace(i), m.trace(i));
        }
        int k = some(7);
        is("taken " + w + " " + k, x.taken(w, k), m.taken(w, k));
    }

    private void ask(int which) {
        int w = some(5);
        int other = some(5);
        int a = some(16);
        int b = some(16);
        int n = some(61);
        int few = some(21);
        int bit = some(2);
        switch (which) {
            case 0: is("of " + w + " " + a, x.of(w, a - 1), m.of(w, a - 1)); break;
            case 1: is("of " + w + " 1" + a, x.of(w, 10 + a), m.of(w, 10 + a)); break;
            case 2: is("at " + a, x.at(a, some2(b)), m.at(a, some2(b))); break;
            case 3: is("told " + a, x.told(a % 7), m.told(a % 7)); break;
            case 4: is("on who", x.on(n, 0), m.on(n, 0)); break;
            case 5: is("on " + n + " " + a, x.on(n, 10 + a), m.on(n, 10 + a)); break;
            case 6: is("soon " + w, x.soon(w), m.soon(w)); break;
            case 7: is("way " + w + " " + a, x.way(w, a), m.way(w, a)); break;
            case 8: is("way " + w + " " + few % 6, x.way(w, few % 6), m.way(w, few % 6)); break;
            case 9: is("reach " + w, x.reach(w, a, b), m.reach(w, a, b)); break;
            case 10: is("heaviest " + w, x.heaviest(w), m.heaviest(w)); break;
            case 11: cut(w, bit); break;
            case 12: is("stirred " + w, x.stirred(w), m.stirred(w)); break;
            case 13: is("meet " + w + " " + other, x.meet(w, other), m.meet(w, other)); break;
            case 14: is("heft " + w, x.heft(w, bit), m.heft(w, bit)); break;
            case 15: is("can " + w, x.can(w, bit), m.can(w, bit)); break;
            case 16: was(a, few, bit); break;
            case 17: is("odds " + w, x.odds(w, bit), m.odds(w, bit)); break;
            case 18: is("mean " + n, x.mean(n, bit), m.mean(n, bit)); break;
            case 19: is("ends", x.ends(bit), m.ends(bit)); break;
            case 20: is("looked", x.looked(), m.looked()); break;
            default: is("count " + a, x.count(a % 8), m.count(a % 8));
        }
    }

    private static int some2(int b) {
        return b < 0 ? b : b % 4;
    }

    private void cut(int w, int what) {
        is("cut " + w, x.cut(w, what), m.cut(w, what));
        is("cut's cells " + w, x.cut(w, 1), m.cut(w, 1));
    }

    /** Of a number that is so behind n for some number now, most times. */
    private void was(int cell, int n, int what) {
        int will = below(4) == 0 ? some(100) : m.on(n, 10 + cell);
        is("was " + cell + " " + will + " " + n, x.was(cell, will, n, what), m.was(cell, will, n, what));
    }
}
