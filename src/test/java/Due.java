/** Compares answers with those that are due; the program ends with 1 if one was otherwise. */
final class Due {
    private int wrong;
    private int asked;

    void is(String call, long got, long want) {
        asked++;
        if (got != want) {
            wrong++;
            System.out.println(call + " answered " + got + ", due is " + want);
        }
    }

    void holds(String what, boolean so) {
        asked++;
        if (!so) {
            wrong++;
            System.out.println("not so: " + what);
        }
    }

    void end() {
        System.out.println(wrong + " of " + asked + " wrong");
        if (wrong != 0) {
            System.exit(1);
        }
    }

    static void feed(BearMouse x, String text) {
        for (int i = 0; i < text.length(); i++) {
            x.feed(text.charAt(i));
        }
    }

    static int brew(BearMouse x, String text) {
        feed(x, text);
        return x.brew();
    }

    /** Sets STRENGTH of the CELLS from 0 on. */
    static void fill(BearMouse x, int... strengths) {
        for (int cell = 0; cell < strengths.length; cell++) {
            x.set(cell, strengths[cell]);
        }
    }

    static void fillAll(BearMouse x, int strength) {
        for (int cell = 0; cell < 16; cell++) {
            x.set(cell, strength);
        }
    }
}
