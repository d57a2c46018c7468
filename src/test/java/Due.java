/** Compares answers with those that are due; the program ends with 1 if one was otherwise. */
final class Due {
    private int wrong;
    private int asked;
    private String words = "";

    /** One call. */
    interface Call {
        long of(BearMouse x);
    }

    /** One call with a number in it. */
    interface CallOf {
        long of(BearMouse x, int n);
    }

    void is(String call, long got, long want) {
        asked++;
        if (got != want) {
            wrong++;
            System.out.println(words + call + " answered " + got + ", due is " + want);
        }
    }

    void holds(String what, boolean so) {
        asked++;
        if (!so) {
            wrong++;
            System.out.println(words + "not so: " + what);
        }
    }

    /** A test of its own for words of the document: of what stands ahead of the promises by 0, else of that promise. */
    void test(int promise, String said, Runnable test) {
        words = "[" + promise + ": " + said + "] ";
        holds("the document says so", Doc.part(promise).contains(said));
        int before = asked;
        test.run();
        holds("something was asked", asked > before);
        words = "";
    }

    /** A call is answered with a number, and changes nothing, where there is some of everything. */
    void unchanged(String name, long want, Call call) {
        BearMouse x = Rich.made();
        is(name, call.of(x), want);
        holds(name + " changes nothing", Rich.isAsMade(x));
    }

    /** A call is answered with a number, and changes nothing, where there is room for no more. */
    void unchangedFull(String name, long want, Call call) {
        BearMouse x = Rich.full();
        is(name + " (full)", call.of(x), want);
        holds(name + " changes nothing (full)", Rich.isAsFull(x));
    }

    /** A call is refused with each of some numbers in it, and changes nothing. */
    void refused(String name, long want, CallOf call, int... numbers) {
        for (int n : numbers) {
            unchanged(name + " with n " + n, want, x -> call.of(x, n));
        }
    }

    /** A call changes nothing, whatever it answers. */
    void asks(String name, Call call) {
        BearMouse x = Rich.made();
        call.of(x);
        holds(name + " changes nothing", Rich.isAsMade(x));
    }

    void end() {
        System.out.println(wrong + " of " + asked + " wrong");
        if (wrong != 0) {
            System.exit(1);
        }
    }

    static void feed(BearMouse x, String text) {
        for (int i = 0; i < text.length(); i++) {
            x.feed(text.charAt(i));
        }
    }

    static int brew(BearMouse x, String text) {
        feed(x, text);
        return x.brew();
    }

    /** Sets STRENGTH of the CELLS from 0 on. */
    static void fill(BearMouse x, int... strengths) {
        for (int cell = 0; cell < strengths.length; cell++) {
            x.set(cell, strengths[cell]);
        }
    }

    static void fillAll(BearMouse x, int strength) {
        for (int cell = 0; cell < 16; cell++) {
            x.set(cell, strength);
        }
    }
}
