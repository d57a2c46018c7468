import java.lang.reflect.Array;
import java.util.ArrayList;
import java.util.Arrays;
import java.util.List;

/**
 * The document once more, in another way than BearMouse does it (real classes for KINDS, real arrays for TAPES,
 * texts cut apart, distances between all CELLS), so that the two can be compared.
 */
final class Model {
    private static final int NONE = -1, BAD = -2, STATE = -3, FULL = -4, GONE = -5;

    // ---- KINDS, as the host would have them

    private static final List<Integer> ran = new ArrayList<>();

    static class Plain implements Cloneable {
        int i;
        int v;
        int weight;
        int[] line = new int[4];

        int walks(int x) {
            ran.add(10);
            return x + i;
        }

        int sinks(int x) {
            ran.add(11);
            return walks(x) - v;
        }

        int tells(int x) {
            ran.add(12);
            return sinks(x) * 2;
        }

        int needs(int cell) {
            return weight;
        }

        int far() {
            return 1;
        }

        Plain twin() {
            try {
                Plain twin = (Plain) clone();
                twin.line = line.clone();
                return twin;
            } catch (CloneNotSupportedException e) {
                throw new IllegalStateException(e);
            }
        }
    }

    static class Shrew extends Plain {
        @Override
        int sinks(int x) {
            ran.add(20);
            return super.sinks(x) ^ 6;
        }

        @Override
        int far() {
            return 2;
        }
    }

    static class Hen extends Plain {
        @Override
        int walks(int x) {
            ran.add(30);
            return super.walks(x * 3);
        }

        @Override
        int needs(int cell) {
            return cell < 4 ? weight / 2 : weight;
        }
    }

    static class Ferret extends Plain {
        @Override
        int tells(int x) {
            ran.add(40);
            return super.tells(x) + sinks(1);
        }

        @Override
        int needs(int cell) {
            return weight + v;
        }
    }

    static class Beetle extends Shrew {
        @Override
        int walks(int x) {
            ran.add(50);
            return -super.walks(x);
        }

        @Override
        int sinks(int x) {
            ran.add(51);
            return super.sinks(x + 1);
        }

        @Override
        int needs(int cell) {
            return weight < v ? 0 : weight - v;
        }
    }

    static class Bishop extends Hen {
        @Override
        int tells(int x) {
            ran.add(60);
            return super.tells(x - i);
        }

        @Override
        int needs(int cell) {
            return 2 * super.needs(cell);
        }
    }

    static class Told extends Ferret {
        @Override
        int sinks(int x) {
            ran.add(70);
            return super.sinks(x) + super.walks(2);
        }

        @Override
        int walks(int x) {
            ran.add(71);
            return super.walks(x) ^ v;
        }

        @Override
        int needs(int cell) {
            return super.needs(cell) + line[cell / 4];
        }
    }

    private static final List<Class<? extends Plain>> KINDS =
        List.of(Plain.class, Shrew.class, Hen.class, Ferret.class, Beetle.class, Bishop.class, Told.class);

    private static Plain made(int kind) {
        switch (kind) {
            case 0: return new Plain();
            case 1: return new Shrew();
            case 2: return new Hen();
            case 3: return new Ferret();
            case 4: return new Beetle();
            case 5: return new Bishop();
            default: return new Told();
        }
    }

    // ---- how all is

    private static final class Things {
        int[] cells = new int[16];
        int minute;
        List<Plain> walkers = new ArrayList<>();
        int prints;
        List<int[]> seen = new ArrayList<>();
        List<int[]> afternoon = new ArrayList<>();
        List<int[]> book = new ArrayList<>();
        String holds = "";

        Things twin() {
            Things t = new Things();
            t.cells = cells.clone();
            t.minute = minute;
            for (Plain w : walkers) {
                t.walkers.add(w.twin());
            }
            t.prints = prints;
            t.seen.addAll(seen);
            t.afternoon.addAll(afternoon);
            t.book.addAll(book);
            t.holds = holds;
            return t;
        }

        String[] clauses() {
            return holds.isEmpty() ? new String[0] : holds.split(";");
        }

        int last(String word, int without) {
            int n = without;
            for (String clause : clauses()) {
                if (clause.startsWith(word)) {
                    n = Integer.parseInt(clause.substring(word.length()));
                }
            }
            return n;
        }

        int spoon() {
            return last("spoon ", 99);
        }

        int milk() {
            return last("milk ", 10);
        }

        int grows(int cell) {
            int sum = 2;
            for (String clause : clauses()) {
                String[] parts = clause.split(" ");
                if (parts.length == 3 && holdsAt(parts[2], cell)) {
                    int n = Integer.parseInt(parts[1]);
                    sum += parts[0].equals("thick") ? n : -n;
                }
            }
            return sum;
        }

        boolean holdsAt(String e, int cell) {
            int or = outer(e, '|');
            if (or >= 0) {
                return holdsAt(e.substring(0, or), cell) | holdsAt(e.substring(or + 1), cell);
            }
            int and = outer(e, '&');
            if (and >= 0) {
                return holdsAt(e.substring(0, and), cell) & holdsAt(e.substring(and + 1), cell);
            }
            if (e.charAt(0) == '!') {
                return !holdsAt(e.substring(1), cell);
            }
            if (e.charAt(0) == '(') {
                return holdsAt(e.substring(1, e.length() - 1), cell);
            }
            int n = Integer.parseInt(e.substring(2));
            int is = value(e.charAt(0), cell);
            return e.charAt(1) == '<' && is < n || e.charAt(1) == '=' && is == n || e.charAt(1) == '>' && is > n;
        }

        int value(char letter, int cell) {
            int r = cell / 4;
            int x = cell % 4;
            switch (letter) {
                case 'c': return cell;
                case 'r': return r;
                case 'x': return x;
                case 's': return cells[cell] / 10;
                case 'b': return r % 3 == 0 || x % 3 == 0 ? 1 : 0;
                default: return minute % 10;
            }
        }

        void goes() {
            int[] then = new int[16];
            for (int c = 0; c < 16; c++) {
                then[c] = Math.min(99, Math.max(0, cells[c] + grows(c)));
            }
            cells = then;
            minute++;
        }

        void goes(int n) {
            for (int k = 0; k < n; k++) {
                goes();
            }
        }

        void milked(int cell) {
            cells[cell] = Math.max(0, cells[cell] - milk());
        }

        void swap(int a, int b) {
            int was = cells[a];
            cells[a] = cells[b];
            cells[b] = was;
        }

        boolean bears(Plain w, int cell) {
            return cell != spoon() && cells[cell] >= w.needs(cell);
        }

        boolean[] ground(Plain w) {
            boolean[] g = new boolean[16];
            for (int c = 0; c < 16; c++) {
                g[c] = bears(w, c);
            }
            return g;
        }

        int cross(Plain w) {
            return crossOn(ground(w), w.far());
        }

        int who() {
            int bits = 0;
            for (int k = 0; k < walkers.size(); k++) {
                if (cross(walkers.get(k)) != GONE) {
                    bits += 1 << k;
                }
            }
            return bits;
        }

        int who(int cellBits) {
            int bits = 0;
            for (int k = 0; k < walkers.size(); k++) {
                boolean all = true;
                for (int c = 0; c < 16; c++) {
                    all &= (cellBits >> c & 1) == 0 || bears(walkers.get(k), c);
                }
                bits += all ? 1 << k : 0;
            }
            return bits;
        }

        boolean allSeen() {
            for (int[] row : seen) {
                Things t = twin();
                t.goes(row[2]);
                if ((t.cross(t.walkers.get(row[0])) != GONE) != (row[1] == 1)) {
                    return false;
                }
            }
            return true;
        }

        int sum() {
            return Arrays.stream(cells).sum();
        }
    }

    private static int outer(String e, char sign) {
        int deep = 0;
        for (int k = 0; k < e.length(); k++) {
            char c = e.charAt(k);
            deep += c == '(' ? 1 : c == ')' ? -1 : 0;
            if (deep == 0 && c == sign) {
                return k;
            }
        }
        return -1;
    }

    private static boolean step(int a, int b, int far) {
        int rows = Math.abs(a / 4 - b / 4);
        int columns = Math.abs(a % 4 - b % 4);
        return Math.min(rows, columns) == 0 && rows + columns >= 1 && rows + columns <= far;
    }

    private static int[][] distances(boolean[] ground, int far) {
        int[][] d = new int[16][16];
        for (int a = 0; a < 16; a++) {
            for (int b = 0; b < 16; b++) {
                d[a][b] = !ground[a] || !ground[b] ? 999 : a == b ? 0 : step(a, b, far) ? 1 : 999;
            }
        }
        for (int m = 0; m < 16; m++) {
            for (int a = 0; a < 16; a++) {
                for (int b = 0; b < 16; b++) {
                    d[a][b] = Math.min(d[a][b], d[a][m] + d[m][b]);
                }
            }
        }
        return d;
    }

    private static int crossOn(boolean[] ground, int far) {
        int[][] d = distances(ground, far);
        int least = 999;
        for (int a = 0; a < 16; a += 4) {
            for (int b = 3; b < 16; b += 4) {
                least = Math.min(least, d[a][b]);
            }
        }
        return least == 999 ? GONE : least;
    }

    private static boolean wayFrom(List<Integer> way, int steps, boolean[] ground, int far) {
        int end = way.get(way.size() - 1);
        if (steps == 0) {
            return end % 4 == 3;
        }
        for (int c = 0; c < 16; c++) {
            if (ground[c] && step(end, c, far) && !way.contains(c)) {
                way.add(c);
                if (wayFrom(way, steps - 1, ground, far)) {
                    return true;
                }
                way.remove(way.size() - 1);
            }
        }
        return false;
    }

    // ---- the face

    private Things now = new Things();
    private Things kept;
    private final List<String> brews = new ArrayList<>();
    private String text = "";
    private List<Integer> trace = new ArrayList<>();
    private final Object[] tapes = new Object[6];

    private boolean no(int walker) {
        return walker < 0 || walker >= now.walkers.size();
    }

    private static boolean out(int n, int first, int last) {
        return n < first || n > last;
    }

    private Things behind(int n) {
        Things t = now.twin();
        t.goes(n);
        return t;
    }

    int walker(int kind, int v, int weight) {
        if (out(kind, 0, 6)) return NONE;
        if (out(v, 0, 9) || out(weight, 0, 99)) return BAD;
        if (now.walkers.size() == 5) return FULL;
        Plain w = made(kind);
        w.i = now.walkers.size();
        w.v = v;
        w.weight = weight;
        now.walkers.add(w);
        return w.i;
    }

    int of(int walker, int what) {
        if (no(walker)) return NONE;
        Plain w = now.walkers.get(walker);
        if (what == 0) return KINDS.indexOf(w.getClass());
        if (what == 1) return w.v;
        if (what == 2) return w.weight;
        if (what == 3) return now.cross(w);
        return out(what, 10, 25) ? NONE : w.needs(what - 10);
    }

    int at(int cell, int what) {
        if (out(cell, 0, 15) || out(what, 0, 2)) return -1001;
        return what == 0 ? now.cells[cell] : what == 1 ? now.grows(cell) : now.who(1 << cell);
    }

    int set(int cell, int n) {
        if (out(cell, 0, 15)) return NONE;
        if (out(n, 0, 99)) return BAD;
        int was = now.cells[cell];
        now.cells[cell] = n;
        return was;
    }

    int weigh(int walker, int n) {
        if (no(walker)) return NONE;
        if (out(n, 0, 99)) return BAD;
        int was = now.walkers.get(walker).weight;
        now.walkers.get(walker).weight = n;
        return was;
    }

    int line(int walker, int part, int n) {
        if (no(walker) || out(part, 0, 3)) return NONE;
        if (out(n, 0, 9)) return BAD;
        if (!(now.walkers.get(walker) instanceof Told)) return STATE;
        int was = now.walkers.get(walker).line[part];
        now.walkers.get(walker).line[part] = n;
        return was;
    }

    int milk(int cell) {
        if (out(cell, 0, 15)) return NONE;
        now.milked(cell);
        return now.cells[cell];
    }

    int stir(int one, int other) {
        if (out(one, 0, 15) || out(other, 0, 15)) return NONE;
        if (!step(one, other, 1)) return BAD;
        now.swap(one, other);
        return now.cells[one];
    }

    int feed(int sign) {
        if (out(sign, 0, 127)) return BAD;
        if (text.length() == 100) return FULL;
        text += (char) sign;
        return text.length();
    }

    int brew() {
        if (brews.size() == 6) return FULL;
        String read = text;
        text = "";
        int fault = new Begins().fault(read);
        if (fault >= 0) return -10 - fault;
        brews.add(read);
        now.holds = read;
        return brews.size() - 1;
    }

    /** Goes along a text sign by sign, knowing no more than what may come next. */
    private static final class Begins {
        private static final String[] WORDS = {"thick ", "thin ", "spoon ", "milk "};
        private String word = "";
        private String state = "word";
        private String nest = "";
        private int clauses = 1;

        int fault(String text) {
            for (int k = 0; k < text.length(); k++) {
                if (!goesOn(text.charAt(k))) {
                    return k;
                }
            }
            boolean whole = word.startsWith("th")
                ? (state.equals("t2") || state.equals("after")) && !nest.contains("(")
                : state.equals("n2") || state.equals("n3");
            return whole ? -1 : text.length();
        }

        private boolean goesOn(char c) {
            switch (state) {
                case "word":
                    word += c;
                    for (String w : WORDS) {
                        if (w.equals(word)) {
                            state = "n1";
                        }
                        if (w.startsWith(word)) {
                            return true;
                        }
                    }
                    return false;
                case "n1":
                    state = "n2";
                    return digit(c);
                case "n2":
                    if (digit(c)) {
                        state = "n3";
                        return true;
                    }
                    return behindNumber(c);
                case "n3":
                    return behindNumber(c);
                case "f":
                    return factor(c);
                case "rel":
                    state = "t1";
                    return "<=>".indexOf(c) >= 0;
                case "t1":
                    state = "t2";
                    return digit(c);
                case "t2":
                    if (digit(c)) {
                        state = "after";
                        return true;
                    }
                    return after(c);
                default:
                    return after(c);
            }
        }

        private static boolean digit(char c) {
            return c >= '0' && c <= '9';
        }

        private boolean behindNumber(char c) {
            if (word.startsWith("th")) {
                state = "f";
                return c == ' ';
            }
            return c == ';' && nextClause();
        }

        private boolean nextClause() {
            clauses++;
            word = "";
            nest = "";
            state = "word";
            return clauses <= 10;
        }

        private boolean factor(char c) {
            if (c == '(' || c == '!') {
                nest += c;
                return nest.length() <= 4;
            }
            state = "rel";
            return "crxsbm".indexOf(c) >= 0;
        }

        private boolean after(char c) {
            nest = nest.replaceAll("!*$", "");
            state = "f";
            if (c == '|' || c == '&') {
                return true;
            }
            if (c == ')' && nest.endsWith("(")) {
                nest = nest.substring(0, nest.length() - 1);
                state = "after";
                return true;
            }
            return c == ';' && nest.isEmpty() && nextClause();
        }
    }

    int told(int what) {
        switch (what) {
            case 0: return now.minute;
            case 1: return now.spoon() > 15 ? GONE : now.spoon();
            case 2: return now.milk();
            case 3: return now.who();
            case 4: return now.sum();
            case 5: return now.who(now.prints);
            default: return NONE;
        }
    }

    int pass(int n) {
        if (out(n, 0, 60)) return BAD;
        if (now.minute + n > 9999) return STATE;
        now.goes(n);
        return now.minute;
    }

    int on(int n, int what) {
        if (what != 0 && out(what, 10, 25)) return NONE;
        if (out(n, 0, 60)) return BAD;
        return what == 0 ? behind(n).who() : behind(n).cells[what - 10];
    }

    int soon(int walker) {
        if (no(walker)) return NONE;
        Things t = now.twin();
        for (int n = 0; n <= 60; n++) {
            if (t.cross(now.walkers.get(walker)) != GONE) return n;
            t.goes();
        }
        return GONE;
    }

    int way(int walker, int k) {
        if (no(walker) || out(k, 0, 15)) return NONE;
        Plain w = now.walkers.get(walker);
        int steps = now.cross(w);
        if (steps == GONE) return GONE;
        boolean[] ground = now.ground(w);
        for (int from = 0; from < 16; from += 4) {
            List<Integer> way = new ArrayList<>(List.of(from));
            if (ground[from] && wayFrom(way, steps, ground, w.far())) {
                return k < way.size() ? way.get(k) : GONE;
            }
        }
        return GONE;
    }

    int reach(int walker, int from, int to) {
        if (no(walker) || out(from, 0, 15) || out(to, 0, 15)) return NONE;
        Plain w = now.walkers.get(walker);
        int d = distances(now.ground(w), w.far())[from][to];
        return d == 999 ? GONE : d;
    }

    int heaviest(int walker) {
        if (no(walker)) return NONE;
        int greatest = GONE;
        for (int n = 0; n < 100; n++) {
            Plain w = now.walkers.get(walker).twin();
            w.weight = n;
            if (now.cross(w) != GONE) greatest = n;
        }
        return greatest;
    }

    int cut(int walker, int what) {
        if (no(walker) || out(what, 0, 1)) return NONE;
        Plain w = now.walkers.get(walker);
        for (int size = 0; size <= 3; size++) {
            for (int set = 0; set < 65536; set++) {
                if (Integer.bitCount(set) == size) {
                    boolean[] ground = now.ground(w);
                    for (int c = 0; c < 16; c++) {
                        ground[c] &= (set >> c & 1) == 0;
                    }
                    if (!flows(ground, w.far())) return what == 0 ? size : set;
                }
            }
        }
        return GONE;
    }

    private static boolean flows(boolean[] ground, int far) {
        boolean[] wet = new boolean[16];
        for (int round = 0; round < 17; round++) {
            for (int c = 0; c < 16; c++) {
                for (int d = 0; d < 16 && !wet[c]; d++) {
                    wet[c] = ground[c] && (c % 4 == 0 || wet[d] && step(c, d, far));
                }
            }
        }
        return wet[3] || wet[7] || wet[11] || wet[15];
    }

    int stirred(int walker) {
        if (no(walker)) return NONE;
        Plain w = now.walkers.get(walker);
        int least = now.cross(w) == GONE ? 999 : now.cross(w);
        int pair = GONE;
        for (int a = 0; a < 16; a++) {
            for (int b = a + 1; b < 16; b++) {
                if (step(a, b, 1)) {
                    Things t = now.twin();
                    t.swap(a, b);
                    int steps = t.cross(w) == GONE ? 999 : t.cross(w);
                    if (steps < least) {
                        least = steps;
                        pair = 100 * a + b;
                    }
                }
            }
        }
        return pair;
    }

    int meet(int one, int other) {
        if (no(one) || no(other)) return NONE;
        if (one == other) return BAD;
        int[] sums = new int[16];
        for (int w : new int[] {one, other}) {
            int[][] d = distances(now.ground(now.walkers.get(w)), now.walkers.get(w).far());
            for (int c = 0; c < 16; c++) {
                sums[c] += Math.min(Math.min(d[0][c], d[4][c]), Math.min(d[8][c], d[12][c]));
            }
        }
        int best = 0;
        for (int c = 1; c < 16; c++) {
            best = sums[c] < sums[best] ? c : best;
        }
        return sums[best] >= 999 ? GONE : best;
    }

    int print(int cells) {
        if (out(cells, 0, 65535)) return BAD;
        int was = now.prints;
        now.prints = cells;
        return was;
    }

    private static int add(List<int[]> rows, int most, int... row) {
        if (rows.size() == most) return FULL;
        rows.add(row);
        return rows.size();
    }

    int see(int walker, boolean can, int n) {
        if (walker == -1) {
            now.seen.clear();
            return 0;
        }
        if (no(walker)) return NONE;
        if (out(n, 0, 20)) return BAD;
        return add(now.seen, 5, walker, can ? 1 : 0, n);
    }

    int heft(int walker, int what) {
        if (no(walker) || out(what, 0, 1)) return NONE;
        List<Integer> found = new ArrayList<>();
        for (int n = 0; n < 100; n++) {
            Things t = now.twin();
            t.walkers.get(walker).weight = n;
            if (t.allSeen()) found.add(n);
        }
        return what == 0 ? found.size() : found.isEmpty() ? GONE : found.get(0);
    }

    int can(int walker, int what) {
        if (no(walker) || out(what, 0, 1)) return NONE;
        List<Integer> found = new ArrayList<>();
        for (int n = 0; n < 10; n++) {
            Things t = now.twin();
            t.walkers.get(walker).v = n;
            if (t.allSeen()) found.add(n);
        }
        return what == 0 ? found.size() : found.isEmpty() ? GONE : found.get(0);
    }

    int was(int cell, int m, int n, int what) {
        if (out(cell, 0, 15) || out(what, 0, 1)) return NONE;
        if (out(m, 0, 99) || out(n, 0, 20)) return BAD;
        List<Integer> found = new ArrayList<>();
        for (int s = 0; s < 100; s++) {
            Things t = now.twin();
            t.cells[cell] = s;
            t.goes(n);
            if (t.cells[cell] == m) found.add(s);
        }
        return what == 0 ? found.size() : found.isEmpty() ? GONE : found.get(0);
    }

    private static long lowest(int above, int part) {
        for (int below = 1; below <= 16; below *= 2) {
            if (above * below % 16 == 0) return part == 0 ? above * below / 16 : below;
        }
        return -99;
    }

    long odds(int walker, int part) {
        if (no(walker) || out(part, 0, 1)) return Long.MIN_VALUE;
        int good = 0;
        for (int c = 0; c < 16; c++) {
            Things t = now.twin();
            t.milked(c);
            good += t.cross(t.walkers.get(walker)) == GONE ? 0 : 1;
        }
        return lowest(good, part);
    }

    long mean(int n, int part) {
        if (out(n, 0, 60) || out(part, 0, 1)) return Long.MIN_VALUE;
        return lowest(behind(n).sum(), part);
    }

    int afternoon(int what, int n) {
        if (what == -1) {
            now.afternoon.clear();
            return 0;
        }
        if (out(what, 0, 2)) return NONE;
        if (what > 0 && out(n, 0, 15)) return NONE;
        return add(now.afternoon, 10, what, n);
    }

    int ends(int what) {
        if (out(what, 0, 1)) return NONE;
        Things t = now.twin();
        for (int[] row : now.afternoon) {
            if (row[0] == 0) t.goes();
            if (row[0] == 1) t.milked(row[1]);
            if (row[0] == 2 && row[1] % 4 < 3) t.swap(row[1], row[1] + 1);
        }
        return what == 0 ? t.who() : t.sum();
    }

    int book(int cell, int strength) {
        if (cell == -1) {
            now.book.clear();
            return 0;
        }
        if (out(cell, 0, 15)) return NONE;
        if (out(strength, 0, 99)) return BAD;
        return add(now.book, 8, cell, strength);
    }

    int looked() {
        for (int k = 0; k < now.book.size(); k++) {
            if (now.cells[now.book.get(k)[0]] != now.book.get(k)[1]) return k;
        }
        return GONE;
    }

    int judge(int tape, int i) {
        if (out(tape, 0, 5)) return NONE;
        if (tapes[tape] == null) return 100;
        if (!(tapes[tape] instanceof byte[])) return -12;
        byte[] row = (byte[]) tapes[tape];
        int at = 0;
        while (at < 16) {
            if (i < 0 || (long) i + at >= row.length) return 100 + at;
            if (row[i + at] != now.cells[at]) return at;
            at++;
        }
        return GONE;
    }

    int image() {
        kept = now.twin();
        return kept.walkers.size();
    }

    int undo() {
        if (kept == null) return STATE;
        now = kept.twin();
        return now.walkers.size();
    }

    int act(int walker, int act, int x) {
        ran.clear();
        int answer = 0;
        if (!no(walker)) {
            Plain w = now.walkers.get(walker);
            answer = act == 0 ? w.walks(x) : act == 1 ? w.sinks(x) : act == 2 ? w.tells(x) : 0;
        }
        trace = new ArrayList<>(ran);
        return answer;
    }

    int trace(int i) {
        return i >= 0 && i < Math.min(20, trace.size()) ? trace.get(i) : NONE;
    }

    int taken(int walker, int k) {
        if (out(k, 0, 6)) return BAD;
        if (no(walker)) return -11;
        return KINDS.get(k).isInstance(now.walkers.get(walker)) ? of(walker, 0) : -12;
    }

    int count(int what) {
        int[] all = {now.walkers.size(), brews.size(), now.seen.size(), now.afternoon.size(), now.book.size(),
            text.length(), trace.size()};
        return out(what, 0, 6) ? BAD : all[what];
    }

    int tape(int tape, int sort, int n) {
        if (out(tape, 0, 5)) return NONE;
        if (sort == -1) {
            tapes[tape] = null;
            return 1;
        }
        if (out(sort, 0, 4) || n > 60) return BAD;
        Class<?>[] sorts = {byte.class, short.class, int.class, long.class, boolean.class};
        try {
            tapes[tape] = Array.newInstance(sorts[sort], n);
            return 1;
        } catch (NegativeArraySizeException e) {
            return -14;
        }
    }

    int item(int tape, int i, long v) {
        if (out(tape, 0, 5)) return NONE;
        Object row = tapes[tape];
        if (row == null) return -11;
        try {
            if (row instanceof byte[]) ((byte[]) row)[i] = (byte) v;
            if (row instanceof short[]) ((short[]) row)[i] = (short) v;
            if (row instanceof int[]) ((int[]) row)[i] = (int) v;
            if (row instanceof long[]) ((long[]) row)[i] = v;
            if (row instanceof boolean[]) ((boolean[]) row)[i] = v != 0;
            return 1;
        } catch (ArrayIndexOutOfBoundsException e) {
            return -13;
        }
    }

    long read(int tape, int i) {
        if (out(tape, 0, 5) || tapes[tape] == null) return Long.MIN_VALUE;
        try {
            if (tapes[tape] instanceof boolean[]) return ((boolean[]) tapes[tape])[i] ? 1 : 0;
            return Array.getLong(tapes[tape], i);
        } catch (ArrayIndexOutOfBoundsException e) {
            return Long.MIN_VALUE;
        }
    }

    int shift(int tape, int i, int other, int j, int n) {
        if (out(tape, 0, 5) || out(other, 0, 5)) return NONE;
        try {
            System.arraycopy(tapes[tape], i, tapes[other], j, n);
            return n;
        } catch (NullPointerException e) {
            return -11;
        } catch (ArrayStoreException e) {
            return -12;
        } catch (IndexOutOfBoundsException e) {
            return -13;
        }
    }
}
