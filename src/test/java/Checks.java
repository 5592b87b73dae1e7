/** What the tests of the project share: answers are compared, wrong ones printed and counted. */
final class Checks {
    /** A call whose answer or exception is looked at; a boolean counts 1 or 0. */
    interface Call {
        long answer();
    }

    private final String test;
    private int looked;
    private int wrong;

    Checks(String test) {
        this.test = test;
    }

    void due(String what, long got, long want) {
        compare(what, Long.toString(got), Long.toString(want));
    }

    void due(String what, boolean got, boolean want) {
        compare(what, Boolean.toString(got), Boolean.toString(want));
    }

    void due(String what, float got, float want) {
        // By their bits, so that 0 and -0, and a NaN, are told apart.
        compare(what, Float.toString(got), Float.toString(want));
    }

    void due(String what, String got, String want) {
        compare(what, got, want);
    }

    /** That a call throws an exception of exactly this class. */
    void dueThrow(String what, Call call, Class<? extends RuntimeException> want) {
        String got;
        try {
            got = "answered " + call.answer();
        } catch (RuntimeException e) {
            got = e.getClass().getName();
        }
        compare(what, got, want.getName());
    }

    void dueIndex(String what, Call call) {
        dueThrow(what, call, IndexOutOfBoundsException.class);
    }

    void dueArgument(String what, Call call) {
        dueThrow(what, call, IllegalArgumentException.class);
    }

    void dueState(String what, Call call) {
        dueThrow(what, call, IllegalStateException.class);
    }

    private void compare(String what, String got, String want) {
        looked++;
        if (!got.equals(want)) {
            wrong++;
            if (wrong <= 20) {
                System.out.println(test + ": " + what + ": " + got + ", due is " + want);
            }
        }
    }

    /** Ends the test: with exit code 1 if an answer was wrong, or none was looked at. */
    void finish() {
        if (wrong != 0 || looked == 0) {
            System.out.println(test + ": " + wrong + " of " + looked + " answers are not as due");
            System.exit(1);
        }
    }

    // ---- runs that several tests need

    static ClubAcademy withPlayers(int count) {
        ClubAcademy academy = new ClubAcademy();
        for (int i = 0; i < count; i++) {
            academy.enter();
        }
        return academy;
    }

    /** Plays a whole game; answers how many puzzles were made. */
    static int play(ClubAcademy academy, int white, int black, int result, int... moves) {
        academy.begin(white, black);
        for (int move : moves) {
            academy.move(move);
        }
        return academy.end(result);
    }

    /** The number by which the face tells a line: its moves in base 4, the first one lowest. */
    static int line(int... moves) {
        int line = 0;
        int digit = 1;
        for (int move : moves) {
            line += move * digit;
            digit *= 4;
        }
        return line;
    }
}
