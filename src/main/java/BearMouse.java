/** A cup of sixteen cells that grow stronger minute by minute, and walkers who cross it where it bears them. */
public final class BearMouse {
    public static final int NONE = -1, BAD = -2, STATE = -3, FULL = -4;
    public static final long NO = Long.MIN_VALUE;

    private static final int ABSENT = -5;
    private static final int NOTHING = -11;
    private static final int CAST = -12;
    private static final int PLACE = -13;
    private static final int SIZE = -14;

    private static final int CELLS = 16;
    private static final int ALL_CELLS = 0xFFFF;
    private static final int COLUMN_0 = 0x1111;
    private static final int COLUMN_3 = 0x8888;
    private static final int COLUMNS_0_1 = 0x3333;
    private static final int COLUMNS_2_3 = 0xCCCC;

    private static final int STRENGTHS = 100;
    private static final int WEIGHTS = 100;
    private static final int VALUES = 10;
    private static final int WALKERS = 5;
    private static final int BREWS = 6;
    private static final int LAST_MINUTE = 9999;
    private static final int MOST_MINUTES = 60;
    private static final int MOST_SEEN_MINUTES = 20;
    private static final int TAPES = 6;
    private static final int USUAL_GROWTH = 2, USUAL_MILK = 10, NO_SPOON = 99;

    private static final int WALKER = 0, SHREW = 1, HEN = 2, FERRET = 3, BEETLE = 4, BISHOP = 5, TOLD = 6;
    private static final int KINDS = 7;
    private static final int[] KIND_ABOVE = {-1, WALKER, WALKER, WALKER, SHREW, HEN, FERRET};

    private final Scene now = new Scene();
    private final Scene kept = new Scene();
    private boolean imaged;
    private int brews;
    private final Reader reader = new Reader();
    private final Acts acts = new Acts();
    private final Tape[] tapes = new Tape[TAPES];

    // What is asked goes on in these, so that what is stays as it is.
    private final Cup asked = new Cup();
    private final Walker guess = new Walker();
    private final boolean[] fits = new boolean[STRENGTHS];

    public BearMouse() {
        now.held = new Brew(NO_SPOON, USUAL_MILK);
        kept.held = now.held;
        for (int i = 0; i < TAPES; i++) {
            tapes[i] = new Tape();
        }
    }

    // ---- walkers, brews, cells

    public int walker(int kind, int v, int weight) {
        if (!isBelow(kind, KINDS)) {
            return NONE;
        }
        if (!isBelow(v, VALUES) || !isBelow(weight, WEIGHTS)) {
            return BAD;
        }
        if (now.walking >= WALKERS) {
            return FULL;
        }
        now.walkers[now.walking].become(kind, v, weight);
        now.walking++;
        return now.walking - 1;
    }

    public int of(int walker, int what) {
        Walker one = now.walkerAt(walker);
        if (one == null) {
            return NONE;
        }
        if (what == 0) {
            return one.kind;
        }
        if (what == 1) {
            return one.v;
        }
        if (what == 2) {
            return one.weight;
        }
        if (what == 3) {
            return one.crossing(now.cup, now.held.spoon);
        }
        if (what >= 10 && what < 10 + CELLS) {
            return one.needs(rowOf(what - 10));
        }
        return NONE;
    }

    public int at(int cell, int what) {
        int none = -1001;
        if (!isBelow(cell, CELLS)) {
            return none;
        }
        if (what == 0) {
            return now.cup.strength[cell];
        }
        if (what == 1) {
            return now.held.growthOf(cell, now.cup.strength[cell], now.cup.minute);
        }
        if (what == 2) {
            return now.borneOnAll(1 << cell);
        }
        return none;
    }

    public int set(int cell, int n) {
        if (!isBelow(cell, CELLS)) {
            return NONE;
        }
        if (!isBelow(n, STRENGTHS)) {
            return BAD;
        }
        int before = now.cup.strength[cell];
        now.cup.strength[cell] = n;
        return before;
    }

    public int weigh(int walker, int n) {
        Walker one = now.walkerAt(walker);
        if (one == null) {
            return NONE;
        }
        if (!isBelow(n, WEIGHTS)) {
            return BAD;
        }
        int before = one.weight;
        one.weight = n;
        return before;
    }

    public int line(int walker, int part, int n) {
        Walker one = now.walkerAt(walker);
        if (one == null || !isBelow(part, 4)) {
            return NONE;
        }
        if (!isBelow(n, VALUES)) {
            return BAD;
        }
        if (one.kind != TOLD) {
            return STATE;
        }
        int before = one.lineOfRows[part];
        one.lineOfRows[part] = n;
        return before;
    }

    public int milk(int cell) {
        if (!isBelow(cell, CELLS)) {
            return NONE;
        }
        now.cup.pour(cell, now.held.milk);
        return now.cup.strength[cell];
    }

    public int stir(int one, int other) {
        if (!isBelow(one, CELLS) || !isBelow(other, CELLS)) {
            return NONE;
        }
        if ((around(1 << one, false) & 1 << other) == 0) {
            return BAD;
        }
        now.cup.swap(one, other);
        return now.cup.strength[one];
    }

    public int feed(int sign) {
        if (!isBelow(sign, 128)) {
            return BAD;
        }
        if (!reader.append((char) sign)) {
            return FULL;
        }
        return reader.length;
    }

    public int brew() {
        if (brews >= BREWS) {
            return FULL;
        }
        int fault = reader.faultFor(0, 0);
        if (fault >= 0) {
            reader.length = 0;
            return -10 - fault;
        }
        Brew made = new Brew(reader.spoon, reader.milk);
        for (int minute = 0; minute < 10; minute++) {
            for (int tens = 0; tens < 10; tens++) {
                reader.faultFor(tens, minute);
                made.learn(tens, minute, reader.growth);
            }
        }
        now.held = made;
        reader.length = 0;
        brews++;
        return brews - 1;
    }

    public int told(int what) {
        switch (what) {
            case 0:
                return now.cup.minute;
            case 1:
                return now.held.spoon < CELLS ? now.held.spoon : ABSENT;
            case 2:
                return now.held.milk;
            case 3:
                return now.crossers(now.cup);
            case 4:
                return now.cup.together();
            case 5:
                return now.borneOnAll(now.prints);
            default:
                return NONE;
        }
    }

    // ---- minutes

    public int pass(int n) {
        if (!isUpTo(n, MOST_MINUTES)) {
            return BAD;
        }
        if (now.cup.minute + n > LAST_MINUTE) {
            return STATE;
        }
        now.cup.ripen(n, now.held);
        return now.cup.minute;
    }

    public int on(int n, int what) {
        if (what != 0 && (what < 10 || what >= 10 + CELLS)) {
            return NONE;
        }
        if (!isUpTo(n, MOST_MINUTES)) {
            return BAD;
        }
        askBehind(n);
        return what == 0 ? now.crossers(asked) : asked.strength[what - 10];
    }

    public int soon(int walker) {
        Walker one = now.walkerAt(walker);
        if (one == null) {
            return NONE;
        }
        asked.become(now.cup);
        for (int n = 0; n <= MOST_MINUTES; n++) {
            if (one.crossing(asked, now.held.spoon) >= 0) {
                return n;
            }
            asked.ripen(1, now.held);
        }
        return ABSENT;
    }

    // ---- ways

    public int way(int walker, int k) {
        Walker one = now.walkerAt(walker);
        if (one == null || !isBelow(k, CELLS)) {
            return NONE;
        }
        int bears = one.bearers(now.cup, now.held.spoon);
        int left = fewest(COLUMN_0, COLUMN_3, bears, one.leaps());
        if (k > left) {
            return ABSENT;
        }
        int cell = firstAt(COLUMN_0, left, bears, one.leaps());
        for (int i = 0; i < k && cell >= 0; i++) {
            cell = firstAt(around(1 << cell, one.leaps()), left - i - 1, bears, one.leaps());
        }
        return cell;
    }

    public int reach(int walker, int from, int to) {
        Walker one = now.walkerAt(walker);
        if (one == null || !isBelow(from, CELLS) || !isBelow(to, CELLS)) {
            return NONE;
        }
        return fewest(1 << from, 1 << to, one.bearers(now.cup, now.held.spoon), one.leaps());
    }

    public int heaviest(int walker) {
        Walker one = now.walkerAt(walker);
        if (one == null) {
            return NONE;
        }
        guess.copy(one);
        for (int n = WEIGHTS - 1; n >= 0; n--) {
            guess.weight = n;
            if (guess.crossing(now.cup, now.held.spoon) >= 0) {
                return n;
            }
        }
        return ABSENT;
    }

    public int cut(int walker, int what) {
        Walker one = now.walkerAt(walker);
        if (one == null || !isBelow(what, 2)) {
            return NONE;
        }
        int cells = leastCut(one.bearers(now.cup, now.held.spoon), one.leaps());
        if (cells < 0 || what == 1) {
            return cells;
        }
        return Integer.bitCount(cells);
    }

    public int stirred(int walker) {
        Walker one = now.walkerAt(walker);
        if (one == null) {
            return NONE;
        }
        asked.become(now.cup);
        int least = one.crossing(asked, now.held.spoon);
        int pair = ABSENT;
        for (int lesser = 0; lesser < CELLS; lesser++) {
            int nexts = around(1 << lesser, false);
            for (int greater = lesser + 1; greater < CELLS; greater++) {
                if ((nexts & 1 << greater) != 0) {
                    asked.swap(lesser, greater);
                    int steps = one.crossing(asked, now.held.spoon);
                    asked.swap(lesser, greater);
                    if (steps >= 0 && (least < 0 || steps < least)) {
                        least = steps;
                        pair = 100 * lesser + greater;
                    }
                }
            }
        }
        return pair;
    }

    public int meet(int one, int other) {
        Walker first = now.walkerAt(one);
        Walker second = now.walkerAt(other);
        if (first == null || second == null) {
            return NONE;
        }
        if (one == other) {
            return BAD;
        }
        int bearsFirst = first.bearers(now.cup, now.held.spoon);
        int bearsSecond = second.bearers(now.cup, now.held.spoon);
        int least = 0;
        int best = ABSENT;
        for (int cell = 0; cell < CELLS; cell++) {
            int a = fewest(COLUMN_0, 1 << cell, bearsFirst, first.leaps());
            int b = fewest(COLUMN_0, 1 << cell, bearsSecond, second.leaps());
            if (a >= 0 && b >= 0 && (best < 0 || a + b < least)) {
                least = a + b;
                best = cell;
            }
        }
        return best;
    }

    // ---- prints, seen, odds

    public int print(int cells) {
        if (!isUpTo(cells, ALL_CELLS)) {
            return BAD;
        }
        int before = now.prints;
        now.prints = cells;
        return before;
    }

    public int see(int walker, boolean can, int n) {
        if (walker == -1) {
            return now.seen.empty();
        }
        if (now.walkerAt(walker) == null) {
            return NONE;
        }
        if (!isUpTo(n, MOST_SEEN_MINUTES)) {
            return BAD;
        }
        return now.seen.append(walker, n, can ? 1 : 0);
    }

    public int heft(int walker, int what) {
        Walker one = now.walkerAt(walker);
        if (one == null || !isBelow(what, 2)) {
            return NONE;
        }
        fitAll(WEIGHTS);
        for (int row = 0; row < now.seen.size; row++) {
            askBehind(now.seen.second[row]);
            guess.copy(one);
            for (int n = 0; n < WEIGHTS; n++) {
                guess.weight = n;
                fits[n] = fits[n] && isSeenSo(row, walker);
            }
        }
        return fitting(WEIGHTS, what);
    }

    public int can(int walker, int what) {
        Walker one = now.walkerAt(walker);
        if (one == null || !isBelow(what, 2)) {
            return NONE;
        }
        fitAll(VALUES);
        for (int row = 0; row < now.seen.size; row++) {
            askBehind(now.seen.second[row]);
            guess.copy(one);
            for (int n = 0; n < VALUES; n++) {
                guess.v = n;
                fits[n] = fits[n] && isSeenSo(row, walker);
            }
        }
        return fitting(VALUES, what);
    }

    public int was(int cell, int m, int n, int what) {
        if (!isBelow(cell, CELLS) || !isBelow(what, 2)) {
            return NONE;
        }
        if (!isBelow(m, STRENGTHS) || !isUpTo(n, MOST_SEEN_MINUTES)) {
            return BAD;
        }
        for (int before = 0; before < STRENGTHS; before++) {
            int strength = before;
            for (int i = 0; i < n; i++) {
                strength = now.held.grown(cell, strength, now.cup.minute + i);
            }
            fits[before] = strength == m;
        }
        return fitting(STRENGTHS, what);
    }

    public long odds(int walker, int part) {
        Walker one = now.walkerAt(walker);
        if (one == null || !isBelow(part, 2)) {
            return NO;
        }
        int good = 0;
        for (int cell = 0; cell < CELLS; cell++) {
            asked.become(now.cup);
            asked.pour(cell, now.held.milk);
            if (one.crossing(asked, now.held.spoon) >= 0) {
                good++;
            }
        }
        return partOfSixteenths(good, part);
    }

    public long mean(int n, int part) {
        if (!isUpTo(n, MOST_MINUTES) || !isBelow(part, 2)) {
            return NO;
        }
        askBehind(n);
        return partOfSixteenths(asked.together(), part);
    }

    // ---- afternoons, books

    public int afternoon(int what, int n) {
        if (what == -1) {
            return now.afternoon.empty();
        }
        if (!isBelow(what, 3) || what != 0 && !isBelow(n, CELLS)) {
            return NONE;
        }
        return now.afternoon.append(what, n, 0);
    }

    public int ends(int what) {
        if (!isBelow(what, 2)) {
            return NONE;
        }
        asked.become(now.cup);
        for (int row = 0; row < now.afternoon.size; row++) {
            int n = now.afternoon.second[row];
            if (now.afternoon.first[row] == 0) {
                asked.ripen(1, now.held);
            } else if (now.afternoon.first[row] == 1) {
                asked.pour(n, now.held.milk);
            } else if ((1 << n & COLUMN_3) == 0) {
                asked.swap(n, n + 1);
            }
        }
        return what == 0 ? now.crossers(asked) : asked.together();
    }

    public int book(int cell, int strength) {
        if (cell == -1) {
            return now.book.empty();
        }
        if (!isBelow(cell, CELLS)) {
            return NONE;
        }
        if (!isBelow(strength, STRENGTHS)) {
            return BAD;
        }
        return now.book.append(cell, strength, 0);
    }

    public int looked() {
        for (int row = 0; row < now.book.size; row++) {
            if (now.cup.strength[now.book.first[row]] != now.book.second[row]) {
                return row;
            }
        }
        return ABSENT;
    }

    // ---- judging, the image, acts, tapes

    public int judge(int tape, int i) {
        if (!isBelow(tape, TAPES)) {
            return NONE;
        }
        Tape row = tapes[tape];
        if (row.isNothing()) {
            return 100;
        }
        if (row.sort != Tape.BYTES) {
            return CAST;
        }
        if (!isBelow(i, row.size)) {
            return 100;
        }
        int cells = Math.min(CELLS, row.size - i);
        for (int cell = 0; cell < cells; cell++) {
            if (row.items[i + cell] != now.cup.strength[cell]) {
                return cell;
            }
        }
        return cells < CELLS ? 100 + cells : ABSENT;
    }

    public int image() {
        kept.copy(now);
        imaged = true;
        return kept.walking;
    }

    public int undo() {
        if (!imaged) {
            return STATE;
        }
        now.copy(kept);
        return now.walking;
    }

    public int act(int walker, int act, int x) {
        acts.ran = 0;
        Walker one = now.walkerAt(walker);
        if (one == null || !isBelow(act, Acts.SORTS)) {
            return 0;
        }
        acts.number = walker;
        acts.kind = one.kind;
        acts.v = one.v;
        return acts.run(one.kind, act, x, 0);
    }

    public int trace(int i) {
        return isBelow(i, Math.min(acts.ran, Acts.KEPT)) ? acts.bodies[i] : NONE;
    }

    public int taken(int walker, int k) {
        if (!isBelow(k, KINDS)) {
            return BAD;
        }
        Walker one = now.walkerAt(walker);
        if (one == null) {
            return NOTHING;
        }
        int kind = one.kind;
        for (int i = 0; i < KINDS && kind >= 0; i++) {
            if (kind == k) {
                return one.kind;
            }
            kind = KIND_ABOVE[kind];
        }
        return CAST;
    }

    public int count(int what) {
        switch (what) {
            case 0:
                return now.walking;
            case 1:
                return brews;
            case 2:
                return now.seen.size;
            case 3:
                return now.afternoon.size;
            case 4:
                return now.book.size;
            case 5:
                return reader.length;
            case 6:
                return acts.ran;
            default:
                return BAD;
        }
    }

    public int tape(int tape, int sort, int n) {
        if (!isBelow(tape, TAPES)) {
            return NONE;
        }
        if (sort == Tape.NO_SORT) {
            tapes[tape].become(sort, 0);
            return 1;
        }
        if (!isBelow(sort, Tape.SORTS) || n > Tape.MOST) {
            return BAD;
        }
        if (n < 0) {
            return SIZE;
        }
        tapes[tape].become(sort, n);
        return 1;
    }

    public int item(int tape, int i, long v) {
        if (!isBelow(tape, TAPES)) {
            return NONE;
        }
        Tape row = tapes[tape];
        if (row.isNothing()) {
            return NOTHING;
        }
        if (!isBelow(i, row.size)) {
            return PLACE;
        }
        row.items[i] = row.fitted(v);
        return 1;
    }

    public long read(int tape, int i) {
        if (!isBelow(tape, TAPES) || !isBelow(i, tapes[tape].size)) {
            return NO;
        }
        return tapes[tape].items[i];
    }

    public int shift(int tape, int i, int other, int j, int n) {
        if (!isBelow(tape, TAPES) || !isBelow(other, TAPES)) {
            return NONE;
        }
        Tape from = tapes[tape];
        Tape to = tapes[other];
        if (from.isNothing() || to.isNothing()) {
            return NOTHING;
        }
        if (from.sort != to.sort) {
            return CAST;
        }
        // The room behind a place is taken by subtraction: i + n could wrap.
        if (n < 0 || i < 0 || j < 0 || n > from.size || i > from.size - n || n > to.size || j > to.size - n) {
            return PLACE;
        }
        System.arraycopy(from.items, i, to.items, j, n);
        return n;
    }

    // ---- numbers and cells

    private static boolean isBelow(int n, int limit) {
        return n >= 0 && n < limit;
    }

    private static boolean isUpTo(int n, int last) {
        return n >= 0 && n <= last;
    }

    private static int rowOf(int cell) {
        return cell / 4;
    }

    /** The CELLS (bits) that are one STEP from any of those given, whether these BEAR anyone or not. */
    private static int around(int cells, boolean leaps) {
        int found = cells << 4 | cells >>> 4 | (cells & ~COLUMN_3) << 1 | (cells & ~COLUMN_0) >>> 1;
        if (leaps) {
            found |= cells << 8 | cells >>> 8 | (cells & COLUMNS_0_1) << 2 | (cells & COLUMNS_2_3) >>> 2;
        }
        return found & ALL_CELLS;
    }

    private static int fewest(int from, int to, int bears, boolean leaps) {
        int come = from & bears;
        int edge = come;
        for (int steps = 0; steps < CELLS && edge != 0; steps++) {
            if ((edge & to) != 0) {
                return steps;
            }
            edge = around(edge, leaps) & bears & ~come;
            come |= edge;
        }
        return ABSENT;
    }

    private static int firstAt(int cells, int steps, int bears, boolean leaps) {
        for (int cell = 0; cell < CELLS; cell++) {
            if ((cells & 1 << cell) != 0 && fewest(1 << cell, COLUMN_3, bears, leaps) == steps) {
                return cell;
            }
        }
        return ABSENT;
    }

    private static int leastCut(int bears, boolean leaps) {
        if (fewest(COLUMN_0, COLUMN_3, bears, leaps) < 0) {
            return 0;
        }
        int best = ABSENT;
        // Cells may be one here, so that sets of one and two come, too.
        for (int a = 0; a < CELLS; a++) {
            for (int b = 0; b <= a; b++) {
                for (int c = 0; c <= b; c++) {
                    int cells = 1 << a | 1 << b | 1 << c;
                    if (isLess(cells, best) && fewest(COLUMN_0, COLUMN_3, bears & ~cells, leaps) < 0) {
                        best = cells;
                    }
                }
            }
        }
        return best;
    }

    private static boolean isLess(int cells, int best) {
        if (best < 0) {
            return true;
        }
        int more = Integer.bitCount(cells) - Integer.bitCount(best);
        return more < 0 || more == 0 && cells < best;
    }

    private static long partOfSixteenths(int above, int part) {
        int below = CELLS;
        for (int i = 0; i < 4 && above % 2 == 0 && below > 1; i++) {
            above /= 2;
            below /= 2;
        }
        return part == 0 ? above : below;
    }

    // ---- what is asked

    private void askBehind(int minutes) {
        asked.become(now.cup);
        asked.ripen(minutes, now.held);
    }

    private boolean isSeenSo(int row, int guessed) {
        int number = now.seen.first[row];
        Walker one = number == guessed ? guess : now.walkers[number];
        int crosses = one.crossing(asked, now.held.spoon) >= 0 ? 1 : 0;
        return crosses == now.seen.third[row];
    }

    private void fitAll(int limit) {
        for (int n = 0; n < limit; n++) {
            fits[n] = true;
        }
    }

    private int fitting(int limit, int what) {
        int many = 0;
        int least = ABSENT;
        for (int n = limit - 1; n >= 0; n--) {
            if (fits[n]) {
                many++;
                least = n;
            }
        }
        return what == 0 ? many : least;
    }

    /** STRENGTH of the CELLS, and MINUTE. */
    private static final class Cup {
        private final int[] strength = new int[CELLS];
        private int minute;

        private void become(Cup other) {
            System.arraycopy(other.strength, 0, strength, 0, CELLS);
            minute = other.minute;
        }

        private void ripen(int minutes, Brew brew) {
            for (int i = 0; i < minutes; i++) {
                for (int cell = 0; cell < CELLS; cell++) {
                    strength[cell] = brew.grown(cell, strength[cell], minute);
                }
                minute++;
            }
        }

        private void pour(int cell, int milk) {
            strength[cell] = Math.max(0, strength[cell] - milk);
        }

        private void swap(int one, int other) {
            int first = strength[one];
            strength[one] = strength[other];
            strength[other] = first;
        }

        private int together() {
            int sum = 0;
            for (int cell = 0; cell < CELLS; cell++) {
                sum += strength[cell];
            }
            return sum;
        }
    }

    private static final class Walker {
        private int kind;
        private int v;
        private int weight;
        private final int[] lineOfRows = new int[4];

        private void become(int newKind, int newV, int newWeight) {
            kind = newKind;
            v = newV;
            weight = newWeight;
            // The place may have been another's before an undo.
            for (int row = 0; row < 4; row++) {
                lineOfRows[row] = 0;
            }
        }

        private void copy(Walker other) {
            kind = other.kind;
            v = other.v;
            weight = other.weight;
            System.arraycopy(other.lineOfRows, 0, lineOfRows, 0, 4);
        }

        private int needs(int row) {
            switch (kind) {
                case HEN:
                    return row == 0 ? weight / 2 : weight;
                case FERRET:
                    return weight + v;
                case BEETLE:
                    return Math.max(0, weight - v);
                case BISHOP:
                    return row == 0 ? weight / 2 * 2 : weight * 2;
                case TOLD:
                    return weight + v + lineOfRows[row];
                default:
                    return weight;
            }
        }

        private boolean leaps() {
            return kind == SHREW || kind == BEETLE;
        }

        private int bearers(Cup cup, int spoon) {
            int cells = 0;
            for (int row = 0; row < 4; row++) {
                int need = needs(row);
                for (int cell = 4 * row; cell < 4 * row + 4; cell++) {
                    if (cell != spoon && cup.strength[cell] >= need) {
                        cells |= 1 << cell;
                    }
                }
            }
            return cells;
        }

        private int crossing(Cup cup, int spoon) {
            return fewest(COLUMN_0, COLUMN_3, bearers(cup, spoon), leaps());
        }
    }

    /** Rows told by hand, as many as there is room for. */
    private static final class Rows {
        private final int limit;
        private final int[] first;
        private final int[] second;
        private final int[] third;
        private int size;

        private Rows(int limit) {
            this.limit = limit;
            first = new int[limit];
            second = new int[limit];
            third = new int[limit];
        }

        private int empty() {
            size = 0;
            return 0;
        }

        private int append(int a, int b, int c) {
            if (size >= limit) {
                return FULL;
            }
            first[size] = a;
            second[size] = b;
            third[size] = c;
            size++;
            return size;
        }

        private void copy(Rows other) {
            size = Math.min(limit, other.size);
            System.arraycopy(other.first, 0, first, 0, size);
            System.arraycopy(other.second, 0, second, 0, size);
            System.arraycopy(other.third, 0, third, 0, size);
        }
    }

    /** All that THE IMAGE keeps. */
    private static final class Scene {
        private final Cup cup = new Cup();
        private final Walker[] walkers = new Walker[WALKERS];
        private int walking;
        private int prints;
        private final Rows seen = new Rows(5);
        private final Rows afternoon = new Rows(10);
        private final Rows book = new Rows(8);
        private Brew held;

        private Scene() {
            for (int i = 0; i < WALKERS; i++) {
                walkers[i] = new Walker();
            }
        }

        private void copy(Scene other) {
            cup.become(other.cup);
            walking = other.walking;
            for (int i = 0; i < walking; i++) {
                walkers[i].copy(other.walkers[i]);
            }
            prints = other.prints;
            seen.copy(other.seen);
            afternoon.copy(other.afternoon);
            book.copy(other.book);
            held = other.held;
        }

        private Walker walkerAt(int number) {
            return isBelow(number, walking) ? walkers[number] : null;
        }

        private int crossers(Cup at) {
            int found = 0;
            for (int i = 0; i < walking; i++) {
                if (walkers[i].crossing(at, held.spoon) >= 0) {
                    found |= 1 << i;
                }
            }
            return found;
        }

        private int borneOnAll(int cells) {
            int found = 0;
            for (int i = 0; i < walking; i++) {
                if ((cells & ~walkers[i].bearers(cup, held.spoon)) == 0) {
                    found |= 1 << i;
                }
            }
            return found;
        }
    }

    /** What its CLAUSES come to; as it is made, GROWS is what it is without any. */
    private static final class Brew {
        // GROWS depends on no more than the CELL, STRENGTH by 10 and MINUTE modulo 10.
        private final int[] growth = new int[10 * 10 * CELLS];
        private final int spoon;
        private final int milk;

        private Brew(int spoon, int milk) {
            this.spoon = spoon;
            this.milk = milk;
            for (int i = 0; i < growth.length; i++) {
                growth[i] = USUAL_GROWTH;
            }
        }

        private void learn(int tens, int minute, int[] ofCells) {
            System.arraycopy(ofCells, 0, growth, (minute * 10 + tens) * CELLS, CELLS);
        }

        private int growthOf(int cell, int strength, int minute) {
            return growth[(minute % 10 * 10 + strength / 10) * CELLS + cell];
        }

        private int grown(int cell, int strength, int minute) {
            return Math.max(0, Math.min(99, strength + growthOf(cell, strength, minute)));
        }
    }

    /** Reads THE TEXT; each E is read as the CELLS (bits) for which it holds at one tens of STRENGTH and one MINUTE. */
    private static final class Reader {
        private static final int MOST = 100;
        private static final int CLAUSES = 10;
        private static final int NESTS = 4;

        private final char[] text = new char[MOST];
        private int length;
        private int place;
        private boolean broken;
        private int tens;
        private int minute;
        private final int[] growth = new int[CELLS];
        private int spoon;
        private int milk;

        private boolean append(char sign) {
            if (length >= MOST) {
                return false;
            }
            text[length] = sign;
            length++;
            return true;
        }

        /** The FAULT, or -1: there is none, and growth, spoon and milk are what THE TEXT says. */
        private int faultFor(int atTens, int atMinute) {
            place = 0;
            broken = false;
            tens = atTens;
            minute = atMinute;
            spoon = NO_SPOON;
            milk = USUAL_MILK;
            for (int cell = 0; cell < CELLS; cell++) {
                growth[cell] = USUAL_GROWTH;
            }
            clause();
            for (int n = 1; n < CLAUSES && takes(';'); n++) {
                clause();
            }
            return broken || place < length ? place : -1;
        }

        private void clause() {
            if (takes('s')) {
                expect("poon ");
                spoon = number();
                return;
            }
            if (takes('m')) {
                expect("ilk ");
                milk = number();
                return;
            }
            expect("thi");
            boolean thin = takes('n');
            expect(thin ? " " : "ck ");
            int n = number();
            expect(" ");
            int cells = expression(0);
            for (int cell = 0; cell < CELLS; cell++) {
                if ((cells & 1 << cell) != 0) {
                    growth[cell] += thin ? -n : n;
                }
            }
        }

        private int expression(int depth) {
            int any = 0;
            int all = ALL_CELLS;
            boolean more = true;
            for (int n = 0; n < MOST && more; n++) {
                all &= factor(depth);
                more = takes('&');
                if (!more) {
                    any |= all;
                    all = ALL_CELLS;
                    more = takes('|');
                }
            }
            return any;
        }

        private int factor(int depth) {
            if (depth < NESTS && takes('!')) {
                return ALL_CELLS & ~factor(depth + 1);
            }
            if (depth < NESTS && takes('(')) {
                int cells = expression(depth + 1);
                expect(")");
                return cells;
            }
            return test();
        }

        private int test() {
            int letter = oneOf("crxsbm");
            int relation = oneOf("<=>");
            int n = number();
            int cells = 0;
            for (int cell = 0; cell < CELLS; cell++) {
                if (1 + Integer.compare(valueOf(letter, cell), n) == relation) {
                    cells |= 1 << cell;
                }
            }
            return cells;
        }

        private int valueOf(int letter, int cell) {
            int row = rowOf(cell);
            int column = cell % 4;
            switch (letter) {
                case 0:
                    return cell;
                case 1:
                    return row;
                case 2:
                    return column;
                case 3:
                    return tens;
                case 4:
                    return row == 0 || row == 3 || column == 0 || column == 3 ? 1 : 0;
                default:
                    return minute;
            }
        }

        // Once broken, nothing more is taken, so that the place stays the FAULT.

        private boolean takes(char sign) {
            if (broken || place >= length || text[place] != sign) {
                return false;
            }
            place++;
            return true;
        }

        private void expect(String signs) {
            for (int i = 0; i < signs.length(); i++) {
                if (!takes(signs.charAt(i))) {
                    broken = true;
                }
            }
        }

        private int oneOf(String signs) {
            int found = broken || place >= length ? -1 : signs.indexOf(text[place]);
            if (found < 0) {
                broken = true;
            } else {
                place++;
            }
            return found;
        }

        private int number() {
            int n = 0;
            int digits = 0;
            for (int i = 0; i < 2; i++) {
                if (!broken && place < length && text[place] >= '0' && text[place] <= '9') {
                    n = 10 * n + text[place] - '0';
                    place++;
                    digits++;
                }
            }
            if (digits == 0) {
                broken = true;
            }
            return n;
        }
    }

    /** The BODIES, and THE TRACE that they leave. */
    private static final class Acts {
        private static final int WALKS = 0, SINKS = 1, TELLS = 2;
        private static final int SORTS = 3;
        private static final int KEPT = 20;
        private static final int DEEPEST = 40;
        private static final int[] BODY_OF = {
            10, 11, 12,
            -1, 20, -1,
            30, -1, -1,
            -1, -1, 40,
            50, 51, -1,
            -1, -1, 60,
            71, 70, -1
        };

        private final int[] bodies = new int[KEPT];
        private int ran;
        private int number;
        private int kind;
        private int v;

        /** The body of a KIND, or of the next above it that has one. */
        private int run(int from, int act, int x, int depth) {
            int owner = from;
            for (int i = 0; i < KINDS && owner > WALKER && BODY_OF[owner * SORTS + act] < 0; i++) {
                owner = KIND_ABOVE[owner];
            }
            if (owner < 0 || depth >= DEEPEST) {
                return 0;
            }
            int body = BODY_OF[owner * SORTS + act];
            note(body);
            return done(body, KIND_ABOVE[owner], x, depth + 1);
        }

        private int done(int body, int above, int x, int depth) {
            switch (body) {
                case 10:
                    return x + number;
                case 11:
                    return run(kind, WALKS, x, depth) - v;
                case 12:
                    return run(kind, SINKS, x, depth) * 2;
                case 20:
                    return run(above, SINKS, x, depth) ^ 6;
                case 30:
                    return run(above, WALKS, x * 3, depth);
                case 40:
                    return run(above, TELLS, x, depth) + run(kind, SINKS, 1, depth);
                case 50:
                    return -run(above, WALKS, x, depth);
                case 51:
                    return run(above, SINKS, x + 1, depth);
                case 60:
                    return run(above, TELLS, x - number, depth);
                case 70:
                    return run(above, SINKS, x, depth) + run(above, WALKS, 2, depth);
                case 71:
                    return run(above, WALKS, x, depth) ^ v;
                default:
                    return 0;
            }
        }

        private void note(int body) {
            if (ran < KEPT) {
                bodies[ran] = body;
            }
            ran++;
        }
    }

    /** A row of items of one sort, or nothing. */
    private static final class Tape {
        private static final int NO_SORT = -1, BYTES = 0, SHORTS = 1, INTS = 2, LONGS = 3;
        private static final int SORTS = 5;
        private static final int MOST = 60;

        private int sort = NO_SORT;
        private int size;
        private final long[] items = new long[MOST];

        private boolean isNothing() {
            return sort == NO_SORT;
        }

        private void become(int newSort, int n) {
            sort = newSort;
            size = n;
            for (int i = 0; i < MOST; i++) {
                items[i] = 0;
            }
        }

        private long fitted(long v) {
            switch (sort) {
                case BYTES:
                    return (byte) v;
                case SHORTS:
                    return (short) v;
                case INTS:
                    return (int) v;
                case LONGS:
                    return v;
                default:
                    return v != 0 ? 1 : 0;
            }
        }
    }
}
