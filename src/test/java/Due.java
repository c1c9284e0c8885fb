import java.util.function.Supplier;

/** Collects what a test finds wrong, and ends the test with exit code 1 if there was anything. */
final class Due {
    private final String test;
    private int asked = 0;
    private int wrong = 0;

    Due(String test) {
        this.test = test;
    }

    void is(String call, long got, long want) {
        asked++;
        if (got != want) {
            fails(call + " answered " + got + ", due is " + want);
        }
    }

    /** For very many answers: the text is made only when it is needed. */
    void is(Supplier<String> call, long got, long want) {
        asked++;
        if (got != want) {
            fails(call.get() + " answered " + got + ", due is " + want);
        }
    }

    void is(String call, boolean got, boolean want) {
        is(call, got ? 1 : 0, want ? 1 : 0);
    }

    void is(String call, Object got, Object want) {
        asked++;
        if (!want.equals(got)) {
            fails(call + " is " + got + ", due is " + want);
        }
    }

    /** A whole frame at once: its page, pins, dirty and mark, as told() tells them. */
    void frame(String when, FramePool pool, int f, int page, int pins, int dirty, int mark) {
        is(when + ": page of frame " + f, pool.told(f, 0), page);
        is(when + ": pins of frame " + f, pool.told(f, 1), pins);
        is(when + ": dirty of frame " + f, pool.told(f, 2), dirty);
        is(when + ": mark of frame " + f, pool.told(f, 3), mark);
    }

    void emptyFrame(String when, FramePool pool, int f) {
        frame(when, pool, f, -1, 0, 0, 0);
    }

    void fails(String what) {
        wrong++;
        System.out.println(test + ": " + what);
    }

    boolean anyWrong() {
        return wrong > 0;
    }

    /** A test that asked nothing holds nothing. */
    boolean allAsDue() {
        return asked > 0 && wrong == 0;
    }

    void end() {
        System.out.println(test + ": " + asked + " answers, " + wrong + " not as due");
        if (!allAsDue()) {
            System.exit(1);
        }
    }
}
