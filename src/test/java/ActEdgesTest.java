/** The edges of THE IMAGE, ACTS, BODIES and THE TRACE in the terms, and of promises 34 to 39, sentence by sentence. */
public final class ActEdgesTest {
    private static final int LOW = Integer.MIN_VALUE;
    private static final int HIGH = Integer.MAX_VALUE;
    private static final int WALKS = 0, SINKS = 1, TELLS = 2;
    private static final Due due = new Due();

    public static void main(String[] args) {
        acts();
        bodies();
        calls();
        images();
        promises();
        due.end();
    }

    private static void acts() {
        due.test(0, "ACTS of a WALKER with x (wrapping):", ActEdgesTest::wrapping);
        due.test(0, "0 walks, 1 sinks, 2 tells;", ActEdgesTest::actNumbers);
        due.test(0, "i its number.", ActEdgesTest::itsNumber);
    }

    private static void bodies() {
        due.test(0, "BODIES: WALKER: 10 walks: x + i.", ActEdgesTest::body10);
        due.test(0, "11 sinks: walks(x) - v.", ActEdgesTest::body11);
        due.test(0, "12 tells: sinks(x) * 2.", ActEdgesTest::body12);
        due.test(0, "SHREW: 20 sinks: super.sinks(x) ^ 6.", ActEdgesTest::body20);
        due.test(0, "HEN: 30 walks: super.walks(x * 3).", ActEdgesTest::body30);
        due.test(0, "FERRET: 40 tells: super.tells(x) + sinks(1).", ActEdgesTest::body40);
        due.test(0, "BEETLE: 50 walks: -super.walks(x).", ActEdgesTest::body50);
        due.test(0, "51 sinks: super.sinks(x + 1).", ActEdgesTest::body51);
        due.test(0, "BISHOP: 60 tells: super.tells(x - i).", ActEdgesTest::body60);
        due.test(0, "TOLD: 70 sinks: super.sinks(x) + super.walks(2).", ActEdgesTest::body70);
        due.test(0, "71 walks: super.walks(x) ^ v.", ActEdgesTest::body71);
    }

    private static void calls() {
        due.test(0, "walks(..) and so on: the body of its KIND, or, if that has none, of the next KIND above that has one;",
            ActEdgesTest::bodyOfItsKind);
        due.test(0, "super.walks(..): so from the KIND above the body's on;", ActEdgesTest::aboveTheBodys);
        due.test(0, "all that stands in a body is done from the left on.", ActEdgesTest::fromTheLeft);
        due.test(0, "THE TRACE: the numbers of the bodies that ran in the latest act(), as they began;", ActEdgesTest::asTheyBegan);
        due.test(0, "the first 20 are kept.", ActEdgesTest::first20);
    }

    private static void images() {
        due.test(0, "THE IMAGE: CELLS,", ActEdgesTest::imageOfCells);
        due.test(0, "WALKERS with all that is theirs,", ActEdgesTest::imageOfWalkers);
        due.test(0, "MINUTE, PRINTS, SEEN,", ActEdgesTest::imageOfMinute);
        due.test(0, "the AFTERNOON, the BOOK,", ActEdgesTest::imageOfRows);
        due.test(0, "which BREW holds.", ActEdgesTest::imageOfBrew);
        due.test(34, "THE IMAGE is taken: how many WALKERS there are.", ActEdgesTest::image);
        due.test(35, "All is as THE IMAGE: how many WALKERS.", ActEdgesTest::undo);
        due.test(35, "STATE: there is none.", ActEdgesTest::noImage);
    }

    private static void promises() {
        due.test(36, "An ACT (0 walks, 1 sinks, 2 tells) of a WALKER with x.", ActEdgesTest::actNumbers);
        due.test(36, "0, and no TRACE then: no such WALKER, act.", ActEdgesTest::noAct);
        due.test(37, "THE TRACE's i-th body.", ActEdgesTest::trace);
        due.test(37, "NONE.", () -> due.refused("trace(n)", -1, (x, n) -> x.trace(n), -1, 12, 19, 20, LOW, HIGH));
        due.test(38, "A WALKER taken for one of KIND k (0 .. 6), or one under that: its KIND.", ActEdgesTest::taken);
        due.test(38, "BAD: k;", () -> {
            due.refused("taken(0, n)", -2, (x, n) -> x.taken(0, n), -1, 7, LOW, HIGH);
            due.refused("taken(5, n)", -2, (x, n) -> x.taken(5, n), -1, 7, LOW, HIGH);
        });
        due.test(38, "NOTHING: no such WALKER;", () ->
            due.refused("taken(n, 6)", -11, (x, n) -> x.taken(n, 6), -1, Rich.WALKERS, 5, LOW, HIGH));
        due.test(38, "CAST.", () -> due.refused("taken(0, n)", -12, (x, n) -> x.taken(0, n), 1, 2, 4, 5));
        due.test(39, "How many: 0 WALKERS, 1 BREWS, 2 SEEN, 3 of the AFTERNOON, 4 of the BOOK,", ActEdgesTest::counts);
        due.test(39, "5 bytes of THE TEXT,", ActEdgesTest::countOfBytes);
        due.test(39, "6 bodies that ran in the latest act() (all, kept or not).", ActEdgesTest::countOfBodies);
        due.test(39, "BAD.", () -> due.refused("count(n)", -2, (x, n) -> x.count(n), -1, 7, LOW, HIGH));
    }

    // ---- ACTS

    /** One of the KIND, with v, whose number is i. */
    private static BearMouse one(int kind, int v, int i) {
        BearMouse m = new BearMouse();
        for (int k = 0; k < i; k++) {
            m.walker(0, 1, 1);
        }
        m.walker(kind, v, 20);
        return m;
    }

    private static void act(int kind, int v, int i, int act, int x, int want) {
        String call = "KIND " + kind + ", v " + v + ": act(" + i + ", " + act + ", " + x + ")";
        due.is(call, one(kind, v, i).act(i, act, x), want);
    }

    private static void traced(int kind, int act, int... bodies) {
        BearMouse m = one(kind, 3, 1);
        m.act(1, act, 5);
        for (int k = 0; k < bodies.length; k++) {
            due.is("KIND " + kind + ", act " + act + ": trace(" + k + ")", m.trace(k), bodies[k]);
        }
        due.is("KIND " + kind + ", act " + act + ": no more", m.trace(bodies.length), -1);
        due.is("KIND " + kind + ", act " + act + ": how many", m.count(6), bodies.length);
    }

    private static void wrapping() {
        act(0, 0, 1, WALKS, HIGH, LOW);
        act(0, 9, 0, SINKS, LOW, HIGH - 8);
        act(0, 0, 0, TELLS, 1 << 30, LOW);
        act(0, 0, 0, TELLS, LOW, 0);
        act(2, 0, 0, WALKS, HIGH, HIGH - 2);
        act(2, 0, 0, WALKS, LOW, LOW);
        act(4, 0, 0, WALKS, LOW, LOW);
        act(4, 0, 0, WALKS, HIGH, LOW + 1);
        act(4, 0, 0, SINKS, HIGH, LOW ^ 6);
        act(5, 0, 1, TELLS, LOW, ((HIGH * 3) + 1) * 2);
        act(6, 9, 4, SINKS, HIGH, ((HIGH + 4 ^ 9) - 9) + 6);
    }

    private static void actNumbers() {
        BearMouse m = one(0, 5, 2);
        due.is("act 0", m.act(2, 0, 100), 102);
        due.is("its body", m.trace(0), 10);
        due.is("act 1", m.act(2, 1, 100), 97);
        due.is("its body", m.trace(0), 11);
        due.is("act 2", m.act(2, 2, 100), 194);
        due.is("its body", m.trace(0), 12);
        due.is("act 3", m.act(2, 3, 100), 0);
        due.is("act -1", m.act(2, -1, 100), 0);
    }

    private static void itsNumber() {
        for (int i = 0; i <= 4; i++) {
            act(0, 7, i, WALKS, 50, 50 + i);
            act(5, 7, i, TELLS, 50, ((50 - i) * 3 + i - 7) * 2);
        }
        BearMouse m = one(0, 0, 1);
        due.is("act(0, 0, 5)", m.act(0, 0, 5), 5);
        due.is("act(1, 0, 5)", m.act(1, 0, 5), 6);
    }

    // ---- BODIES

    private static void body10() {
        act(0, 9, 3, WALKS, 0, 3);
        act(0, 9, 0, WALKS, -1, -1);
        act(1, 9, 4, WALKS, -5, -1);
        traced(0, WALKS, 10);
    }

    private static void body11() {
        act(0, 9, 3, SINKS, 0, -6);
        act(0, 0, 0, SINKS, -1, -1);
        act(3, 9, 4, SINKS, 5, 0);
        traced(0, SINKS, 11, 10);
    }

    private static void body12() {
        act(0, 9, 3, TELLS, 0, -12);
        act(0, 0, 0, TELLS, -1, -2);
        act(0, 1, 1, TELLS, 0, 0);
        traced(0, TELLS, 12, 11, 10);
    }

    private static void body20() {
        act(1, 0, 0, SINKS, 0, 6);
        act(1, 0, 0, SINKS, 6, 0);
        act(1, 9, 3, SINKS, 50, 44 ^ 6);
        act(1, 9, 0, SINKS, 0, -9 ^ 6);
        traced(1, SINKS, 20, 11, 10);
    }

    private static void body30() {
        act(2, 0, 0, WALKS, 0, 0);
        act(2, 9, 4, WALKS, 7, 25);
        act(2, 9, 0, WALKS, -7, -21);
        traced(2, WALKS, 30, 10);
    }

    private static void body40() {
        act(3, 0, 0, TELLS, 0, 1);
        act(3, 9, 4, TELLS, 20, 30 - 4);
        act(3, 9, 0, TELLS, 9, -8);
        traced(3, TELLS, 40, 12, 11, 10, 11, 10);
    }

    private static void body50() {
        act(4, 9, 0, WALKS, 0, 0);
        act(4, 9, 4, WALKS, 7, -11);
        act(4, 9, 4, WALKS, -7, 3);
        traced(4, WALKS, 50, 10);
    }

    private static void body51() {
        act(4, 0, 0, SINKS, -1, 6);
        act(4, 9, 4, SINKS, 7, -12 - 9 ^ 6);
        traced(4, SINKS, 51, 20, 11, 50, 10);
    }

    private static void body60() {
        act(5, 0, 0, TELLS, 7, 42);
        act(5, 9, 4, TELLS, 4, -10);
        act(5, 9, 4, TELLS, 7, 8);
        traced(5, TELLS, 60, 12, 11, 30, 10);
    }

    private static void body70() {
        act(6, 0, 0, SINKS, 0, 2);
        act(6, 9, 4, SINKS, 7, (11 ^ 9) - 9 + 6);
        traced(6, SINKS, 70, 11, 71, 10, 10);
    }

    private static void body71() {
        act(6, 0, 0, WALKS, 7, 7);
        act(6, 9, 0, WALKS, 9, 0);
        act(6, 9, 4, WALKS, -5, -1 ^ 9);
        traced(6, WALKS, 71, 10);
    }

    // ---- which body, and when

    private static void bodyOfItsKind() {
        int[][] first = {{10, 11, 12}, {10, 20, 12}, {30, 11, 12}, {10, 11, 40}, {50, 51, 12}, {30, 11, 60}, {71, 70, 40}};
        for (int kind = 0; kind < 7; kind++) {
            for (int act = 0; act < 3; act++) {
                BearMouse m = one(kind, 3, 1);
                m.act(1, act, 5);
                due.is("KIND " + kind + ", act " + act, m.trace(0), first[kind][act]);
            }
        }
        traced(2, SINKS, 11, 30, 10);
        traced(4, TELLS, 12, 51, 20, 11, 50, 10);
        traced(5, SINKS, 11, 30, 10);
    }

    private static void aboveTheBodys() {
        traced(4, SINKS, 51, 20, 11, 50, 10);
        traced(5, TELLS, 60, 12, 11, 30, 10);
        traced(6, SINKS, 70, 11, 71, 10, 10);
        traced(1, TELLS, 12, 20, 11, 10);
    }

    private static void fromTheLeft() {
        traced(3, TELLS, 40, 12, 11, 10, 11, 10);
        traced(6, SINKS, 70, 11, 71, 10, 10);
        traced(6, TELLS, 40, 12, 70, 11, 71, 10, 10, 70, 11, 71, 10, 10);
    }

    private static void asTheyBegan() {
        BearMouse m = one(6, 3, 0);
        due.is("ahead of any act()", m.trace(0), -1);
        m.act(0, TELLS, 5);
        due.is("the body that began first", m.trace(0), 40);
        due.is("the one that ended first", m.trace(5), 10);
        m.act(0, WALKS, 5);
        due.is("the latest act()'s first", m.trace(0), 71);
        due.is("the latest act()'s second", m.trace(1), 10);
        due.is("none of the one ahead of it", m.trace(2), -1);
    }

    /** As the longest TRACE has 12 bodies, all are kept. */
    private static void first20() {
        int longest = 0;
        for (int kind = 0; kind < 7; kind++) {
            for (int act = 0; act < 3; act++) {
                BearMouse m = one(kind, 9, 4);
                m.act(4, act, HIGH);
                int ran = m.count(6);
                for (int i = 0; i <= 24; i++) {
                    due.holds("KIND " + kind + ", act " + act + ": trace(" + i + ")", m.trace(i) >= 10 == i < Math.min(ran, 20));
                }
                longest = Math.max(longest, ran);
            }
        }
        due.is("the longest", longest, 12);
    }

    // ---- THE IMAGE

    private static void imageOfCells() {
        BearMouse x = new BearMouse();
        for (int cell = 0; cell < 16; cell++) {
            x.set(cell, 3 * cell);
        }
        x.image();
        Due.fillAll(x, 99);
        x.stir(0, 1);
        x.milk(7);
        x.undo();
        for (int cell = 0; cell < 16; cell++) {
            due.is("at(" + cell + ", 0)", x.at(cell, 0), 3 * cell);
        }
    }

    private static void imageOfWalkers() {
        BearMouse x = new BearMouse();
        x.walker(6, 3, 40);
        x.walker(4, 9, 99);
        for (int row = 0; row < 4; row++) {
            x.line(0, row, 9 - row);
        }
        x.image();
        x.weigh(0, 0);
        x.weigh(1, 1);
        for (int row = 0; row < 4; row++) {
            x.line(0, row, row);
        }
        x.walker(5, 1, 50);
        x.walker(6, 1, 50);
        for (int row = 0; row < 4; row++) {
            x.line(3, row, 7);
        }
        due.is("undo()", x.undo(), 2);
        due.is("count(0)", x.count(0), 2);
        due.is("the third is none", x.of(2, 0), -1);
        due.is("KIND", x.of(0, 0) * 10 + x.of(1, 0), 64);
        due.is("v", x.of(0, 1) * 10 + x.of(1, 1), 39);
        due.is("WEIGHT", x.of(0, 2) * 100 + x.of(1, 2), 4099);
        for (int row = 0; row < 4; row++) {
            due.is("LINE at ROW " + row, x.of(0, 10 + 4 * row), 43 + 9 - row);
        }
        due.is("the next one's number", x.walker(6, 0, 10), 2);
        due.is("the one behind it", x.walker(6, 0, 10), 3);
        for (int row = 0; row < 4; row++) {
            due.is("its LINE is 0 at first at ROW " + row, x.of(3, 10 + 4 * row), 10);
        }
    }

    private static void imageOfMinute() {
        BearMouse x = new BearMouse();
        x.walker(0, 0, 50);
        x.pass(60);
        Due.fillAll(x, 0);
        x.print(0x8001);
        x.see(0, true, 7);
        x.see(0, false, 3);
        x.image();
        x.pass(9);
        Due.fillAll(x, 0);
        x.print(0);
        x.see(-1, true, 0);
        x.see(0, true, 20);
        x.see(0, true, 19);
        x.see(0, true, 18);
        x.undo();
        due.is("MINUTE", x.told(0), 60);
        due.is("PRINTS", x.print(0), 0x8001);
        due.is("SEEN", x.count(2), 2);
        due.is("HEFT by SEEN", x.heft(0, 0), 8);
        due.is("the least by SEEN", x.heft(0, 1), 7);
    }

    private static void imageOfRows() {
        BearMouse x = new BearMouse();
        x.set(5, 25);
        x.afternoon(0, 0);
        x.afternoon(1, 5);
        x.book(5, 25);
        x.book(6, 1);
        x.image();
        x.afternoon(-1, 0);
        x.afternoon(1, 5);
        x.afternoon(2, 4);
        x.afternoon(1, 4);
        x.book(-1, 0);
        x.book(7, 1);
        x.book(8, 1);
        x.book(9, 1);
        x.undo();
        due.is("of the AFTERNOON", x.count(3), 2);
        due.is("ENDS", x.ends(1), 17 + 30);
        due.is("of the BOOK", x.count(4), 2);
        due.is("LOOKED", x.looked(), 1);
        x.set(6, 1);
        due.is("LOOKED then", x.looked(), -5);
        due.is("the third of the AFTERNOON", x.afternoon(0, 0), 3);
        due.is("the third of the BOOK", x.book(0, 1), 3);
    }

    private static void imageOfBrew() {
        BearMouse x = new BearMouse();
        x.image();
        Due.brew(x, "milk 1;spoon 1;thick 1 c=0");
        x.undo();
        due.is("none holds: MILK", x.told(2), 10);
        due.is("none holds: SPOON", x.told(1), -5);
        due.is("none holds: GROWS", x.at(0, 1), 2);
        due.is("but it is there", x.count(1), 1);
        due.is("the next one's number", Due.brew(x, "milk 2;thin 9 c=0"), 1);
        x.image();
        for (int k = 2; k < 6; k++) {
            due.is("brew " + k, Due.brew(x, "milk " + (30 + k) + ";spoon 3"), k);
        }
        x.undo();
        due.is("the second holds: MILK", x.told(2), 2);
        due.is("the second holds: SPOON", x.told(1), -5);
        due.is("the second holds: GROWS", x.at(0, 1), -7);
        due.is("there are 6", Due.brew(x, "milk 1"), -4);
        due.is("the second holds still: MILK", x.told(2), 2);
    }

    private static void image() {
        BearMouse x = new BearMouse();
        for (int k = 0; k <= 5; k++) {
            due.is("image() of " + k, x.image(), k);
            due.is("count(0)", x.count(0), k);
            x.walker(0, 0, k);
        }
        x.weigh(4, 77);
        due.is("image() again", x.image(), 5);
        x.weigh(4, 1);
        due.is("undo()", x.undo(), 5);
        due.is("the latest IMAGE", x.of(4, 2), 77);
        due.asks("image() changes nothing but THE IMAGE", y -> {
            y.undo();
            y.image();
            y.weigh(1, 14);
            return y.set(2, 50);
        });
    }

    private static void undo() {
        BearMouse x = new BearMouse();
        x.image();
        for (int k = 0; k < 5; k++) {
            x.walker(0, 0, k);
        }
        due.is("undo() to none", x.undo(), 0);
        due.is("count(0)", x.count(0), 0);
        due.is("undo() again", x.undo(), 0);
        x.walker(0, 0, 9);
        x.set(3, 9);
        due.is("image() of one", x.image(), 1);
        for (int k = 0; k < 3; k++) {
            x.set(3, k);
            x.weigh(0, k);
            due.is("undo() to one", x.undo(), 1);
            due.is("CELL 3", x.at(3, 0), 9);
            due.is("WEIGHT", x.of(0, 2), 9);
        }
        Due.feed(x, "milk");
        x.tape(0, 3, 1);
        x.act(0, TELLS, 1);
        x.undo();
        due.is("THE TEXT is none of THE IMAGE", x.count(5), 4);
        due.is("TAPES are none of it", x.read(0, 0), 0);
        due.is("THE TRACE is none of it", x.count(6), 3);
    }

    private static void noImage() {
        BearMouse x = new BearMouse();
        due.is("undo() at first", x.undo(), -3);
        x.walker(0, 0, 5);
        x.set(0, 5);
        x.pass(3);
        due.is("undo() later", x.undo(), -3);
        due.is("WALKERS stay", x.count(0), 1);
        due.is("CELLS stay", x.at(0, 0), 11);
        due.is("MINUTE stays", x.told(0), 3);
        due.unchangedFull("undo()", -3, y -> y.undo());
    }

    // ---- promises 36 to 39

    private static void noAct() {
        int[][] none = {{-1, 0}, {2, 0}, {5, 1}, {LOW, 2}, {HIGH, 2}, {0, -1}, {0, 3}, {1, LOW}, {1, HIGH}, {2, 3}};
        for (int[] call : none) {
            BearMouse m = one(6, 3, 1);
            due.is("an act", m.act(1, TELLS, 5), ((6 ^ 3) - 3 + 3) * 2 + (2 ^ 3) - 3 + 3);
            due.is("its bodies", m.count(6), 12);
            due.is("act(" + call[0] + ", " + call[1] + ", 5)", m.act(call[0], call[1], 5), 0);
            due.is("no TRACE", m.trace(0), -1);
            due.is("no bodies", m.count(6), 0);
        }
        due.is("act of nobody", new BearMouse().act(0, 0, 9), 0);
    }

    private static void trace() {
        BearMouse m = one(6, 3, 1);
        m.act(1, TELLS, 5);
        int[] bodies = {40, 12, 70, 11, 71, 10, 10, 70, 11, 71, 10, 10};
        for (int i = 0; i < bodies.length; i++) {
            due.is("trace(" + i + ")", m.trace(i), bodies[i]);
        }
        due.is("trace(12)", m.trace(12), -1);
        due.is("trace(-1)", m.trace(-1), -1);
        due.is("trace(0) of a new one", new BearMouse().trace(0), -1);
    }

    private static void taken() {
        boolean[][] under = new boolean[7][7];
        int[] above = {-1, 0, 0, 0, 1, 2, 3};
        for (int kind = 0; kind < 7; kind++) {
            for (int k = kind; k >= 0; k = above[k]) {
                under[kind][k] = true;
            }
            BearMouse x = one(kind, 0, 4);
            for (int k = 0; k <= 6; k++) {
                due.is("KIND " + kind + ": taken(4, " + k + ")", x.taken(4, k), under[kind][k] ? kind : -12);
            }
            due.is("KIND " + kind + ": taken(4, 7)", x.taken(4, 7), -2);
        }
    }

    private static void counts() {
        BearMouse x = new BearMouse();
        int[] most = {5, 6, 5, 10, 8};
        for (int n = 0; n <= 11; n++) {
            for (int what = 0; what < 5; what++) {
                due.is("count(" + what + ") behind " + n, x.count(what), Math.min(n, most[what]));
            }
            x.walker(0, 0, 0);
            Due.brew(x, n < 6 ? "milk 1" : "");
            x.see(0, true, 0);
            x.afternoon(0, 0);
            x.book(0, 0);
        }
    }

    private static void countOfBytes() {
        BearMouse x = new BearMouse();
        for (int n = 0; n < 100; n++) {
            due.is("count(5)", x.count(5), n);
            x.feed(n);
        }
        due.is("count(5) of 100", x.count(5), 100);
        x.feed(1);
        due.is("count(5) of no more", x.count(5), 100);
        x.brew();
        due.is("count(5) behind brew()", x.count(5), 0);
    }

    private static void countOfBodies() {
        int[][] many = {{1, 2, 3}, {1, 3, 4}, {2, 3, 4}, {1, 2, 6}, {2, 5, 6}, {2, 3, 5}, {2, 5, 12}};
        BearMouse none = new BearMouse();
        due.is("ahead of any", none.count(6), 0);
        for (int kind = 0; kind < 7; kind++) {
            BearMouse m = one(kind, 1, 0);
            for (int act = 0; act < 3; act++) {
                m.act(0, act, 7);
                due.is("KIND " + kind + ", act " + act, m.count(6), many[kind][act]);
            }
        }
    }
}
