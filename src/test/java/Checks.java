/** Counts what is not as due, for the tests beside it. */
final class Checks {
    interface Call {
        void run();
    }

    private int wrong = 0;
    private int made = 0;
    /** What the checks that follow are about; stands in front of what is told. */
    private String about = "";

    void about(String what) {
        about = what + ": ";
    }

    int made() {
        return made;
    }

    void equal(String call, long got, long due) {
        made++;
        if (got != due) {
            tell(call + " answered " + got + ", due is " + due);
        }
    }

    void isTrue(String call, boolean got) {
        equal(call, got ? 1 : 0, 1);
    }

    void isFalse(String call, boolean got) {
        equal(call, got ? 1 : 0, 0);
    }

    /** Exactly this class, and thrown by a statement of Bidwhistle: not by the machine nor by the library. */
    void throwing(String call, Class<? extends RuntimeException> due, Call made) {
        this.made++;
        try {
            made.run();
            tell(call + " answered, due is " + due.getSimpleName());
        } catch (RuntimeException thrown) {
            if (thrown.getClass() != due) {
                tell(call + " threw " + thrown.getClass().getSimpleName() + ", due is " + due.getSimpleName());
            } else if (!isOfItsOwn(thrown)) {
                tell(call + " did not throw by a statement of its own");
            }
        }
    }

    static boolean isOfItsOwn(RuntimeException thrown) {
        StackTraceElement[] trace = thrown.getStackTrace();
        return trace.length > 0 && trace[0].getClassName().startsWith("Bidwhistle");
    }

    void tell(String what) {
        wrong++;
        System.out.println(about + what);
    }

    void end() {
        System.out.println(made + " checks, " + wrong + " wrong");
        if (wrong != 0 || made == 0) {
            System.exit(1);
        }
    }

    static void draft(Bidwhistle game, int... steps) {
        for (int step : steps) {
            game.step(step);
        }
    }

    static int store(Bidwhistle game, int... steps) {
        draft(game, steps);
        return game.store();
    }

    /** Stores the numbers 0 to count - 1 as programs, which so bid their own number: ten at most. */
    static Bidwhistle withNumbers(int count) {
        Bidwhistle game = new Bidwhistle();
        for (int i = 0; i < count; i++) {
            store(game, i);
        }
        return game;
    }

    /** Stores 20 programs: the digits, and the value less each digit. */
    static Bidwhistle full() {
        Bidwhistle game = withNumbers(10);
        for (int i = 0; i < 10; i++) {
            store(game, Bidwhistle.VALUE, i, Bidwhistle.MINUS);
        }
        return game;
    }
}
