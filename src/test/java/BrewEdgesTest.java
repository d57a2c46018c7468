import java.util.function.IntPredicate;
import java.util.regex.Matcher;
import java.util.regex.Pattern;

/** The edges of THE TEXT, its FAULTS and BREWS in the terms, and of promises 10 to 12, sentence by sentence. */
public final class BrewEdgesTest {
    private static final Due due = new Due();
    private static final String[] TEXTS = {
        "thick 1 c=1", "thin 99 r<2|x>1&s=9", "spoon 3", "milk 42", "thick 05 !b=1;milk 7", "thin 1 ((c=1|m>2)&!r=3)",
        "thick 2 !(!(c<1));spoon 15;thin 3 m=0", "thick 1 !!!!c=3", "thin 7 ((((x=2))));thick 10 b=0&b=1", "thick 1 (!c=0)&(r=1)",
        "milk 0;milk 1;milk 2;milk 3;milk 4;milk 5;milk 6;milk 7;milk 8;milk 9"
    };
    private static final Pattern WHOLE = whole();

    public static void main(String[] args) {
        clauses();
        expressions();
        brews();
        promises();
        due.end();
    }

    private static void clauses() {
        due.test(0, "A BREW is read from THE TEXT (bytes, 100 at most):", BrewEdgesTest::bytes);
        due.test(0, "CLAUSES, 1 to 10, with ; between:", BrewEdgesTest::numberOfClauses);
        due.test(0, "thick n E; thin n E; spoon n; milk n", BrewEdgesTest::words);
        due.test(0, "(one blank ahead of each part behind the word;", BrewEdgesTest::blanks);
        due.test(0, "n 1 or 2 digits).", BrewEdgesTest::digits);
    }

    private static void expressions() {
        due.test(0, "E: T or T|E. T: F or F&T.", BrewEdgesTest::orAndAnd);
        due.test(0, "F: !F, (E), or a TEST:", BrewEdgesTest::factors);
        due.test(0, "a letter, < or = or >,", BrewEdgesTest::relations);
        due.test(0, "a number (1 or 2 digits):", BrewEdgesTest::numbersInTests);
        due.test(0, "of a CELL c its number,", BrewEdgesTest::letterC);
        due.test(0, "r its ROW, x its COLUMN,", BrewEdgesTest::lettersRAndX);
        due.test(0, "s STRENGTH by 10 (cut),", BrewEdgesTest::letterS);
        due.test(0, "b 1, if it is in ROW or COLUMN 0 or 3, else 0,", BrewEdgesTest::letterB);
        due.test(0, "m MINUTE modulo 10.", BrewEdgesTest::letterM);
        due.test(0, "A ( or ! within 4 others is none.", BrewEdgesTest::within4);
    }

    private static void brews() {
        due.test(0, "The FAULT: the place of the first byte with which none begins so", BrewEdgesTest::faultsWithin);
        due.test(0, "(the end of THE TEXT, if it ends too early).", BrewEdgesTest::faultsAtTheEnd);
        due.test(0, "The newest BREW holds (6 at most);", BrewEdgesTest::newest);
        due.test(0, "without one there are no CLAUSES.", BrewEdgesTest::withoutOne);
        due.test(0, "GROWS of a CELL: 2, and the n of all thick whose E holds, less those of all thin, together",
            BrewEdgesTest::grows);
        due.test(0, "(may be below 0).", BrewEdgesTest::growsBelow0);
        due.test(0, "SPOON (a CELL;", BrewEdgesTest::spoon);
        due.test(0, "99 without;", BrewEdgesTest::spoonWithout);
        due.test(0, "from 16 on nowhere),", BrewEdgesTest::spoonFrom16);
        due.test(0, "MILK (10 without):", BrewEdgesTest::milkWithout);
        due.test(0, "the last one's n.", BrewEdgesTest::lastOne);
    }

    private static void promises() {
        due.test(10, "A sign (0 .. 127) comes behind THE TEXT's: how many it has.", BrewEdgesTest::feed);
        due.test(10, "BAD;", () -> {
            due.refused("feed(n)", -2, (x, n) -> x.feed(n), -1, 128, 256 + 'm', Integer.MIN_VALUE, Integer.MAX_VALUE);
            due.unchangedFull("feed(128)", -2, x -> x.feed(128));
        });
        due.test(10, "FULL.", () -> {
            due.unchangedFull("feed(0)", -4, x -> x.feed(0));
            due.unchangedFull("feed(127)", -4, x -> x.feed(127));
        });
        due.test(11, "THE TEXT, which is empty then, is a BREW, and holds: its number.", BrewEdgesTest::brew);
        due.test(11, "FULL: there are 6 (THE TEXT stays);", BrewEdgesTest::brewFull);
        due.test(11, "-10 less the FAULT (the one that held holds).", BrewEdgesTest::brewFault);
        due.test(12, "What 0 MINUTE, 1 SPOON (-5: nowhere), 2 MILK, 3 who can CROSS (bits), "
            + "4 STRENGTH of all CELLS, together, 5 WHOSE (bits).", BrewEdgesTest::told);
        due.test(12, "NONE.", () ->
            due.refused("told(n)", -1, (x, n) -> x.told(n), -1, 6, Integer.MIN_VALUE, Integer.MAX_VALUE));
    }

    // ---- what a BREW is, said once more

    /** All whole texts: as ! and ( are within 4 others at most, one pattern can say them. */
    private static Pattern whole() {
        String n = "[0-9][0-9]?";
        String test = "[crxsbm][<=>]" + n;
        String factor = test;
        for (int deep = 0; deep < 4; deep++) {
            factor = "(?:!" + factor + "|\\(" + factor + "(?:[|&]" + factor + ")*\\)|" + test + ")";
        }
        String clause = "(?:thi(?:ck|n) " + n + " " + factor + "(?:[|&]" + factor + ")*|spoon " + n + "|milk " + n + ")";
        return Pattern.compile(clause + "(?:;" + clause + "){0,9}");
    }

    private static int faultOf(String text) {
        for (int length = 1; length <= text.length(); length++) {
            Matcher begun = WHOLE.matcher(text.substring(0, length));
            if (!begun.matches() && !begun.hitEnd()) {
                return length - 1;
            }
        }
        return WHOLE.matcher(text).matches() ? -1 : text.length();
    }

    private static void faultIs(String text, int place) {
        due.is("brew() of " + text, Due.brew(new BearMouse(), text), -10 - place);
    }

    private static void wholeIs(String text) {
        due.is("brew() of " + text, Due.brew(new BearMouse(), text), 0);
    }

    /** The CELLS for which an E holds, where all is as in x. */
    private static void holdsFor(BearMouse x, String e, IntPredicate want) {
        due.is("brew() of " + e, Due.brew(x, "thick 1 " + e), x.count(1) - 1);
        for (int cell = 0; cell < 16; cell++) {
            due.is(e + " at CELL " + cell, x.at(cell, 1) - 2, want.test(cell) ? 1 : 0);
        }
    }

    // ---- CLAUSES

    private static void bytes() {
        String text = "thick 1 " + "c=0|".repeat(22) + "c=15";
        due.is("bytes of the longest", text.length(), 100);
        BearMouse x = new BearMouse();
        for (int k = 0; k < 100; k++) {
            due.is("feed: byte " + k, x.feed(text.charAt(k)), k + 1);
        }
        due.is("feed: a 101st", x.feed('|'), -4);
        due.is("brew() of 100", x.brew(), 0);
        due.is("the last of 100 is read", x.at(15, 1), 3);
        due.is("the 99th is, too", x.at(1, 1), 2);
    }

    private static void numberOfClauses() {
        faultIs("", 0);
        StringBuilder text = new StringBuilder();
        for (int n = 1; n <= 10; n++) {
            text.append(n == 1 ? "" : ";").append("milk ").append(n - 1);
            BearMouse x = new BearMouse();
            due.is("brew() of " + n + " CLAUSES", Due.brew(x, text.toString()), 0);
            due.is("MILK of " + n + " CLAUSES", x.told(2), n - 1);
            faultIs(text + ",milk 1", text.length());
            faultIs(text + " ;milk 1", text.length());
        }
        faultIs(text + ";", text.length());
        faultIs(text + ";milk 1", text.length());
        faultIs("milk 1;", 7);
        faultIs(";milk 1", 0);
        faultIs("milk 1;;milk 1", 7);
    }

    private static void words() {
        for (String text : new String[] {"thick 1 c=1", "thin 1 c=1", "spoon 1", "milk 1"}) {
            wholeIs(text);
            for (int place = 0; place < text.indexOf(' '); place++) {
                String ahead = text.substring(0, place);
                String behind = text.substring(place + 1);
                faultIs(ahead + ' ' + behind, place);
                faultIs(ahead + '_' + behind, place);
                faultIs(ahead + (char) (text.charAt(place) - 32) + behind, place);
                faultIs(ahead + behind, faultOf(ahead + behind));
                faultIs(ahead, place);
            }
            faultIs(text + " 1", text.length());
        }
        faultIs("spoon 1 c=1", 7);
        faultIs("milk 1 c=1", 6);
        faultIs("thick 1", 7);
        faultIs("thin 1;", 6);
        faultIs("sthick 1 c=1", 1);
    }

    private static void blanks() {
        for (String text : new String[] {"thick 1 c=1", "thin 22 c=1", "spoon 1", "milk 22"}) {
            for (int place = 0; place < text.length(); place++) {
                if (text.charAt(place) == ' ') {
                    String ahead = text.substring(0, place);
                    String behind = text.substring(place + 1);
                    faultIs(ahead + behind, place);
                    faultIs(ahead + "  " + behind, place + 1);
                    faultIs(ahead + "\t" + behind, place);
                    faultIs(ahead + "\0" + behind, place);
                }
            }
            faultIs(" " + text, 0);
            faultIs(text + " ", text.length());
            faultIs(text + "; " + text, text.length() + 1);
        }
        faultIs("thick 1 c =1", 9);
        faultIs("thick 1 c= 1", 10);
        faultIs("thick 1 ( c=1)", 9);
        faultIs("thick 1 c=1 |c=2", 11);
    }

    private static void digits() {
        String[][] around = {{"thick ", " c=1"}, {"thin ", " c=1"}, {"spoon ", ""}, {"milk ", ""}};
        for (String[] parts : around) {
            int place = parts[0].length();
            faultIs(parts[0] + parts[1], place);
            faultIs(parts[0] + "-1" + parts[1], place);
            faultIs(parts[0] + "/" + parts[1], place);
            faultIs(parts[0] + ":" + parts[1], place);
            faultIs(parts[0] + "1:" + parts[1], place + 1);
            for (String n : new String[] {"0", "9", "00", "09", "10", "99"}) {
                wholeIs(parts[0] + n + parts[1]);
            }
            faultIs(parts[0] + "000" + parts[1], place + 2);
            faultIs(parts[0] + "100" + parts[1], place + 2);
        }
        BearMouse x = new BearMouse();
        Due.brew(x, "thick 9 c=0;thick 99 c=1;thick 08 c=2;thin 00 c=3;milk 07;spoon 03");
        due.is("n of 1 digit", x.at(0, 1), 11);
        due.is("n of 2 digits", x.at(1, 1), 101);
        due.is("n of 2 digits with a 0 ahead", x.at(2, 1), 10);
        due.is("n of 00", x.at(3, 1), 2);
        due.is("n of milk", x.told(2), 7);
        due.is("n of spoon", x.told(1), 3);
    }

    // ---- E, T, F and TESTS

    private static boolean isA(int cell) {
        return cell % 4 > 1;
    }

    private static boolean isB(int cell) {
        return cell / 4 > 1;
    }

    private static boolean isC(int cell) {
        return cell % 2 == 1;
    }

    /** A, B and C become TESTS, each of which holds or holds not in whatever way the two others do. */
    private static void truth(String e, IntPredicate want) {
        BearMouse x = new BearMouse();
        for (int cell = 1; cell < 16; cell += 2) {
            x.set(cell, 10);
        }
        holdsFor(x, e.replace("A", "x>1").replace("B", "r>1").replace("C", "s=1"), want);
    }

    private static void orAndAnd() {
        truth("A|B", c -> isA(c) || isB(c));
        truth("A&B", c -> isA(c) && isB(c));
        truth("A|B&C", c -> isA(c) || isB(c) && isC(c));
        truth("A&B|C", c -> isA(c) && isB(c) || isC(c));
        truth("A|B|C", c -> isA(c) || isB(c) || isC(c));
        truth("A&B&C", c -> isA(c) && isB(c) && isC(c));
        truth("A&B|A&C|B&C", c -> isA(c) && isB(c) || isA(c) && isC(c) || isB(c) && isC(c));
        truth("A|B&C|C", c -> isA(c) || isC(c));
        faultIs("thick 1 |c=1", 8);
        faultIs("thick 1 &c=1", 8);
        faultIs("thick 1 c=1|", 12);
        faultIs("thick 1 c=1&", 12);
        faultIs("thick 1 c=1||c=1", 12);
        faultIs("thick 1 c=1&|c=1", 12);
        faultIs("thick 1 c=1c=1", 11);
    }

    private static void factors() {
        truth("!A", c -> !isA(c));
        truth("!!A", c -> isA(c));
        truth("!A&B", c -> !isA(c) && isB(c));
        truth("!A|B", c -> !isA(c) || isB(c));
        truth("!(A&B)", c -> !(isA(c) && isB(c)));
        truth("!(A|B)&C", c -> !(isA(c) || isB(c)) && isC(c));
        truth("(A|B)&C", c -> (isA(c) || isB(c)) && isC(c));
        truth("A&(B|C)", c -> isA(c) && (isB(c) || isC(c)));
        truth("(A)", c -> isA(c));
        truth("!(!A&!(B|C))", c -> isA(c) || isB(c) || isC(c));
        truth("(!(!A&!C)|B)&A", c -> isA(c));
        faultIs("thick 1 ()", 9);
        faultIs("thick 1 !", 9);
        faultIs("thick 1 !&c=1", 9);
        faultIs("thick 1 (c=1", 12);
        faultIs("thick 1 (c=1;milk 1", 12);
        faultIs("thick 1 c=1)", 11);
        faultIs("thick 1 (c=1))", 13);
        faultIs("thick 1 c=1!", 11);
    }

    private static void relations() {
        BearMouse x = new BearMouse();
        holdsFor(x, "c<7", c -> c < 7);
        holdsFor(x, "c=7", c -> c == 7);
        holdsFor(x, "c>7", c -> c > 7);
        for (char sign = 0; sign < 128; sign++) {
            if ("crxsbm(!".indexOf(sign) < 0) {
                faultIs("thick 1 " + sign + "=1", 8);
            }
            if ("<=>".indexOf(sign) < 0) {
                faultIs("thick 1 c" + sign + "1", 9);
            }
        }
        for (char letter : "crxsbm".toCharArray()) {
            wholeIs("thick 1 " + letter + "<1|" + letter + "=1|" + letter + ">1");
        }
        faultIs("thick 1 c<=1", 10);
        faultIs("thick 1 cr=1", 9);
        faultIs("thick 1 1=c", 8);
    }

    private static void numbersInTests() {
        BearMouse x = new BearMouse();
        holdsFor(x, "c<0", c -> false);
        holdsFor(x, "c=9", c -> c == 9);
        holdsFor(x, "c=09", c -> c == 9);
        holdsFor(x, "c=15", c -> c == 15);
        holdsFor(x, "c<99", c -> true);
        holdsFor(x, "c=00", c -> c == 0);
        faultIs("thick 1 c=", 10);
        faultIs("thick 1 c=;", 10);
        faultIs("thick 1 c=-1", 10);
        faultIs("thick 1 c=x", 10);
        faultIs("thick 1 c=100", 12);
        faultIs("thick 1 c=001", 12);
        faultIs("thick 1 c=/", 10);
        faultIs("thick 1 c=:", 10);
    }

    private static void letterC() {
        BearMouse x = new BearMouse();
        holdsFor(x, "c=0", c -> c == 0);
        holdsFor(x, "c<1", c -> c == 0);
        holdsFor(x, "c>14", c -> c == 15);
        holdsFor(x, "c>15", c -> false);
        holdsFor(x, "c=16", c -> false);
        holdsFor(x, "c<16", c -> true);
    }

    private static void lettersRAndX() {
        for (int n = 0; n <= 4; n++) {
            int wanted = n;
            BearMouse x = new BearMouse();
            holdsFor(x, "r=" + n, c -> c / 4 == wanted);
            holdsFor(x, "r<" + n, c -> c / 4 < wanted);
            holdsFor(x, "r>" + n, c -> c / 4 > wanted);
            holdsFor(x, "x=" + n, c -> c % 4 == wanted);
            holdsFor(x, "x<" + n, c -> c % 4 < wanted);
            holdsFor(x, "x>" + n, c -> c % 4 > wanted);
        }
    }

    private static void letterS() {
        int[] strengths = {0, 9, 10, 19, 20, 29, 30, 49, 50, 59, 60, 79, 80, 89, 90, 99};
        int[] tens = {0, 0, 1, 1, 2, 2, 3, 4, 5, 5, 6, 7, 8, 8, 9, 9};
        for (int n : new int[] {0, 1, 2, 5, 8, 9, 10}) {
            BearMouse x = new BearMouse();
            Due.fill(x, strengths);
            holdsFor(x, "s=" + n, c -> tens[c] == n);
            holdsFor(x, "s<" + n, c -> tens[c] < n);
            holdsFor(x, "s>" + n, c -> tens[c] > n);
        }
        BearMouse x = new BearMouse();
        Due.brew(x, "thick 1 s=4");
        x.set(3, 39);
        due.is("GROWS by 39", x.at(3, 1), 2);
        x.set(3, 40);
        due.is("GROWS by 40, set behind brew()", x.at(3, 1), 3);
    }

    private static void letterB() {
        boolean[] within = new boolean[16];
        within[5] = within[6] = within[9] = within[10] = true;
        BearMouse x = new BearMouse();
        holdsFor(x, "b=1", c -> !within[c]);
        holdsFor(x, "b=0", c -> within[c]);
        holdsFor(x, "b<1", c -> within[c]);
        holdsFor(x, "b>0", c -> !within[c]);
        holdsFor(x, "b>1", c -> false);
        holdsFor(x, "b=2", c -> false);
    }

    private static void letterM() {
        BearMouse x = new BearMouse();
        Due.brew(x, "thick 1 m=0;thick 2 m=9;thick 3 m>9");
        for (int minute = 0; minute <= 31; minute++) {
            int m = minute % 10;
            due.is("GROWS at MINUTE " + minute, x.at(0, 1), m == 0 ? 3 : m == 9 ? 4 : 2);
            x.pass(1);
        }
        BearMouse late = new BearMouse();
        for (int k = 0; k < 166; k++) {
            late.pass(60);
        }
        late.pass(39);
        Due.brew(late, "thick 1 m=0;thick 2 m=9");
        late.set(0, 0);
        due.is("GROWS at MINUTE 9999", late.at(0, 1), 4);
        due.is("behind MINUTE 9999", late.on(1, 10), 4);
        due.is("behind MINUTE 10000", late.on(2, 10), 4 + 3);
        due.is("behind MINUTE 10001", late.on(3, 10), 4 + 3 + 2);
    }

    private static void within4() {
        for (int sort = 0; sort < 32; sort++) {
            StringBuilder opened = new StringBuilder();
            StringBuilder closed = new StringBuilder();
            for (int k = 0; k < 4; k++) {
                boolean bracket = (sort >> k & 1) == 1;
                opened.append(bracket ? '(' : '!');
                closed.append(bracket ? ")" : "");
            }
            String fifth = sort < 16 ? "!c=1" : "(c=1)";
            wholeIs("thick 1 " + opened + "c=1" + closed);
            faultIs("thick 1 " + opened + fifth + closed, 12);
            faultIs("thick 1 c=1|" + opened + fifth + closed, 16);
        }
        wholeIs("thick 1 !!!!c=1&!!!!c=1|((((c=1))))&((((c=1))))");
        wholeIs("thick 1 (((!c=1&!c=2|(c=3))))");
        wholeIs("thick 1 (!!!c=1&!!!c=1)");
        faultIs("thick 1 (!!!c=1&!!!!c=1)", 19);
        faultIs("thick 1 ((((c=1)&!c=1)&(!c=1|(c=2&((c=1))))))", 34);
    }

    // ---- FAULTS

    /** Each byte in each place of whole texts: put in its place, and put ahead of it. */
    private static void faultsWithin() {
        for (String text : TEXTS) {
            due.is("FAULT of " + text, faultOf(text), -1);
            for (int place = 0; place <= text.length(); place++) {
                for (char sign = 0; sign < 128; sign++) {
                    String ahead = text.substring(0, place) + sign;
                    faultAsSaid(ahead + text.substring(place));
                    faultAsSaid(ahead + text.substring(Math.min(place + 1, text.length())));
                }
            }
        }
    }

    private static void faultAsSaid(String text) {
        int fault = faultOf(text);
        due.is("brew() of " + text, Due.brew(new BearMouse(), text), fault < 0 ? 0 : -10 - fault);
    }

    private static void faultsAtTheEnd() {
        for (String text : TEXTS) {
            for (int length = 0; length < text.length(); length++) {
                String begun = text.substring(0, length);
                due.is("brew() of " + begun, Due.brew(new BearMouse(), begun), WHOLE.matcher(begun).matches() ? 0 : -10 - length);
            }
        }
        faultIs("thick 1 " + "c=0|".repeat(23), 100);
        faultIs("thick 1 " + "c=0|".repeat(22) + "(c=1", 100);
        faultIs("milk 1;" + "milk 22;".repeat(8) + "spoo", 75);
    }

    // ---- BREWS

    private static void newest() {
        BearMouse x = new BearMouse();
        for (int k = 0; k < 6; k++) {
            due.is("brew " + k, Due.brew(x, "milk " + (20 + k) + (k % 2 == 0 ? ";spoon " + k : "")), k);
            due.is("MILK of brew " + k, x.told(2), 20 + k);
            due.is("SPOON of brew " + k, x.told(1), k % 2 == 0 ? k : -5);
            due.is("how many", x.count(1), k + 1);
        }
        due.is("a seventh", Due.brew(x, "milk 9"), -4);
        due.is("MILK by the sixth", x.told(2), 25);
        due.is("how many in the end", x.count(1), 6);
    }

    private static void withoutOne() {
        BearMouse x = new BearMouse();
        Due.feed(x, "thick 9 c<16;spoon 1;milk 3");
        for (int cell = 0; cell < 16; cell++) {
            due.is("GROWS of " + cell, x.at(cell, 1), 2);
        }
        due.is("SPOON", x.told(1), -5);
        due.is("MILK", x.told(2), 10);
    }

    private static void grows() {
        BearMouse x = new BearMouse();
        Due.brew(x, "thick 3 c<3;thin 1 c<2;thick 5 c<1;spoon 2;thin 10 c=3|c=2;thick 20 c>14");
        int[] want = {2 + 3 - 1 + 5, 2 + 3 - 1, 2 + 3 - 10, 2 - 10, 2};
        for (int cell = 0; cell < want.length; cell++) {
            due.is("GROWS of " + cell, x.at(cell, 1), want[cell]);
        }
        due.is("GROWS of 15", x.at(15, 1), 22);
        Due.brew(x, "thick 99 c<9;thick 99 c<9;thick 99 c<9;thick 99 c<9;thick 99 c<9;thick 99 c<9;thick 99 c<9");
        due.is("the most", x.at(8, 1), 2 + 7 * 99);
        due.is("beside it", x.at(9, 1), 2);
        Due.brew(x, "thick 0 c=0;thin 0 c=0");
        due.is("none is more or less", x.at(0, 1), 2);
    }

    private static void growsBelow0() {
        BearMouse x = new BearMouse();
        Due.brew(x, "thin 2 c=0;thin 3 c=1;thin 99 c=2;thin 99 c=3;thin 99 c=3");
        int[] want = {0, -1, -97, -196, 2};
        for (int cell = 0; cell < want.length; cell++) {
            due.is("GROWS of " + cell, x.at(cell, 1), want[cell]);
        }
        Due.brew(x, "thin 3 c=1;thick 9 c=1");
        due.is("below 0 by the first CLAUSE alone", x.at(1, 1), 8);
    }

    private static void spoon() {
        BearMouse x = new BearMouse();
        x.walker(0, 0, 0);
        for (int cell : new int[] {0, 9, 15}) {
            Due.brew(x, "spoon " + cell);
            due.is("SPOON", x.told(1), cell);
            for (int c = 0; c < 16; c++) {
                due.is("the SPOON at " + cell + ", BORNE at " + c, x.at(c, 2), c == cell ? 0 : 1);
            }
        }
    }

    private static void nowhere(BearMouse x, String text) {
        x.walker(0, 0, 0);
        due.is("brew() of " + text, Due.brew(x, text), x.count(1) - 1);
        due.is("SPOON by " + text, x.told(1), -5);
        for (int c = 0; c < 16; c++) {
            due.is("BORNE at " + c + " by " + text, x.at(c, 2) & 1, 1);
        }
    }

    private static void spoonWithout() {
        nowhere(new BearMouse(), "milk 3");
        BearMouse x = new BearMouse();
        Due.brew(x, "spoon 0");
        nowhere(x, "thick 1 c=0");
    }

    private static void spoonFrom16() {
        for (int n : new int[] {16, 17, 31, 32, 98, 99}) {
            nowhere(new BearMouse(), "spoon " + n);
            nowhere(new BearMouse(), "spoon 3;spoon " + n);
        }
    }

    private static void milkWithout() {
        BearMouse x = new BearMouse();
        x.set(0, 50);
        due.is("MILK without a BREW", x.milk(0), 40);
        Due.brew(x, "milk 3");
        due.is("MILK by a BREW", x.milk(0), 37);
        Due.brew(x, "spoon 3");
        due.is("MILK without its CLAUSE", x.milk(0), 27);
        due.is("told(2)", x.told(2), 10);
        Due.brew(x, "milk 0");
        due.is("MILK of 0", x.milk(0), 27);
        Due.brew(x, "milk 99");
        due.is("MILK of 99", x.told(2), 99);
    }

    private static void lastOne() {
        BearMouse x = new BearMouse();
        Due.brew(x, "milk 5;spoon 4;milk 99;spoon 2;milk 1;spoon 0;thick 1 c=1");
        due.is("MILK", x.told(2), 1);
        due.is("SPOON", x.told(1), 0);
        Due.brew(x, "spoon 16;spoon 15;milk 7;milk 0");
        due.is("MILK of 0", x.told(2), 0);
        due.is("SPOON that was nowhere", x.told(1), 15);
    }

    // ---- promises 10 to 12

    private static void feed() {
        BearMouse x = new BearMouse();
        due.is("feed(0)", x.feed(0), 1);
        due.is("feed(127)", x.feed(127), 2);
        due.is("count(5)", x.count(5), 2);
        for (int k = 3; k <= 100; k++) {
            due.is("feed: sign " + k, x.feed(k), k);
        }
        BearMouse y = new BearMouse();
        Due.feed(y, "milk ");
        due.is("feed('8')", y.feed('8'), 6);
        due.is("feed('3')", y.feed('3'), 7);
        y.brew();
        due.is("signs stand in their order", y.told(2), 83);
    }

    private static void brew() {
        BearMouse x = new BearMouse();
        due.is("the first", Due.brew(x, "milk 4"), 0);
        due.is("THE TEXT is empty", x.count(5), 0);
        due.is("it holds", x.told(2), 4);
        due.is("nothing is no BREW", x.brew(), -10);
        due.is("a sign comes as the first", x.feed('m'), 1);
        due.is("the second", Due.brew(x, "ilk 5"), 1);
        due.is("the second holds", x.told(2), 5);
    }

    private static void brewFull() {
        due.unchangedFull("brew() of 100 bytes", -4, x -> x.brew());
        BearMouse x = new BearMouse();
        for (int k = 0; k < 6; k++) {
            due.is("brew " + k, Due.brew(x, "milk " + k), k);
        }
        due.is("of nothing", x.brew(), -4);
        due.is("of a whole text", Due.brew(x, "milk 9"), -4);
        due.is("of a FAULT", Due.brew(x, "?"), -4);
        due.is("THE TEXT stays", x.count(5), 7);
        due.is("the sixth holds", x.told(2), 5);
    }

    private static void brewFault() {
        BearMouse x = new BearMouse();
        due.is("at the start", Due.brew(x, "x"), -10);
        due.is("none holds", x.told(2), 10);
        due.is("none is there", x.count(1), 0);
        Due.brew(x, "milk 4;spoon 2;thick 3 c=1");
        due.is("at 7", Due.brew(x, "milk 9;spoon 3;thin 1 c=1;?"), -36);
        due.is("MILK of the one that held", x.told(2), 4);
        due.is("SPOON of the one that held", x.told(1), 2);
        due.is("GROWS of the one that held", x.at(1, 1), 5);
        due.is("how many", x.count(1), 1);
        due.is("the next one's number", Due.brew(x, "milk 1"), 1);
        due.is("the most", Due.brew(x, "thick 1 " + "c=0|".repeat(23)), -110);
    }

    private static void told() {
        BearMouse x = new BearMouse();
        for (int k = 0; k < 5; k++) {
            x.walker(0, 0, 20 * k + 19);
        }
        Due.brew(x, "milk 99;spoon 15");
        Due.fill(x, 99, 99, 99, 99);
        due.is("told(0)", x.told(0), 0);
        due.is("told(1)", x.told(1), 15);
        due.is("told(2)", x.told(2), 99);
        due.is("told(3)", x.told(3), 31);
        due.is("told(4)", x.told(4), 4 * 99);
        due.is("told(5)", x.told(5), 31);
        x.set(2, 40);
        x.print(0x8004);
        due.is("told(3) by 40", x.told(3), 3);
        due.is("told(5) by the SPOON", x.told(5), 0);
        x.print(0x0004);
        due.is("told(5) by 40", x.told(5), 3);
        Due.fillAll(x, 99);
        due.is("told(4), the most", x.told(4), 1584);
        Due.brew(x, "spoon 16");
        due.is("told(1): nowhere", x.told(1), -5);
        x.pass(7);
        due.is("told(0) behind 7", x.told(0), 7);
    }
}
