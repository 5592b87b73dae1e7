/**
 * "When a call throws, nothing has changed; of several exceptions it is the first one of the throws clause":
 * in unlike states each refused call is made on a new object, and all that can be asked and done behind
 * it is compared with what an object answers that was not called so.
 */
public final class RefusalsTest {
    private static final Checks CHECKS = new Checks("RefusalsTest");
    private static final String INDEX = "IndexOutOfBoundsException";
    private static final String ARGUMENT = "IllegalArgumentException";
    private static final String STATE = "IllegalStateException";
    private static final String[] LINE_CALLS = {"results", "points", "isDropped", "pointsOfGames", "mean"};

    public static void main(String[] args) {
        newObject();
        onePlayer();
        betweenGames();
        whileAGameGoesOn();
        whileAGameIsFull();
        behindSixtyGames();
        withFortyPuzzles();
        CHECKS.finish();
    }

    private static void newObject() {
        String state = "";
        refused(state, INDEX, "begin 0 1", "begin 0 0", "begin -1 0", "score 0", "score -1", "puzzle 0", "source 0");
        refused(state, INDEX, "solve 0 0 0", "solve 0 0 4", "offered 0", "rating 0 0", "rating 0 5", "opponent 0", "hasWhite 0");
        refused(state, ARGUMENT, "move 4", "move -1", "end 3", "end -1");
        refused(state, STATE, "move 0", "move 3", "end 0", "end 2");
        refusedAlways(state);
    }

    private static void onePlayer() {
        String state = "enter;";
        refused(state, INDEX, "begin 0 1", "begin 1 0", "begin 1 1", "solve 0 0 0", "solve 1 0 0", "score 1", "opponent 1");
        refused(state, INDEX, "offered 1", "rating 1 0", "rating 1 5", "hasWhite 1", "hasWhite -1");
        refused(state, ARGUMENT, "begin 0 0", "rating 0 5", "rating 0 -1", "move 4", "end 3");
        refused(state, STATE, "hasWhite 0", "move 0", "end 0");
        refusedAlways(state);
    }

    /** Three players, two puzzles of which player 0 has tried one, a dropped line, and no game that goes on. */
    private static final String BETWEEN = "enter; enter; enter; begin 0 1; move 0; move 1; end 0; solve 0 0 2; solve 1 0 1;"
        + "begin 1 0; move 0; move 1; end 0; begin 0 1; move 0; move 1; end 0; begin 0 1; move 3; move 3; move 1; end 2;";

    private static void betweenGames() {
        refused(BETWEEN, INDEX, "begin 0 3", "begin 3 0", "begin 3 3", "begin 8 8", "solve 0 8 2", "solve 3 0 2");
        refused(BETWEEN, INDEX, "solve 3 0 4", "solve 0 8 4", "solve 3 8 4", "rating 3 5", "hasWhite 3", "puzzle 8", "source 8");
        refused(BETWEEN, ARGUMENT, "begin 0 0", "begin 2 2", "solve 0 0 4", "solve 0 1 4", "solve 2 1 -1", "move 4", "end 3");
        refused(BETWEEN, STATE, "move 0", "end 1", "solve 0 0 2", "solve 0 0 0", "solve 1 0 2", "hasWhite 1");
        refusedAlways(BETWEEN);
    }

    private static void whileAGameGoesOn() {
        String state = BETWEEN + "begin 2 0; move 0; move 1; move 1;";
        refused(state, INDEX, "begin 0 3", "begin 3 3", "begin -1 0", "solve 0 8 2", "solve 3 0 4", "rating 3 5");
        refused(state, ARGUMENT, "begin 0 0", "begin 2 2", "move 4", "move -1", "end 3", "end -1", "solve 0 0 4");
        refused(state, STATE, "begin 0 1", "begin 2 0", "begin 1 2", "solve 0 0 2", "hasWhite 1");
        refusedAlways(state);
    }

    private static void whileAGameIsFull() {
        String state = BETWEEN + "begin 2 1;" + "move 2;".repeat(12);
        refused(state, STATE, "move 0", "move 1", "move 2", "move 3", "begin 0 1");
        refused(state, ARGUMENT, "move 4", "move -1", "end 3", "begin 1 1");
        refused(state, INDEX, "begin 0 3");
        refusedAlways(state);
    }

    private static void behindSixtyGames() {
        String state = BETWEEN + "begin 0 1; end 1;".repeat(56);
        refused(state, STATE, "begin 0 1", "begin 2 1", "move 0", "end 0", "solve 0 0 1");
        refused(state, ARGUMENT, "begin 0 0", "move 4", "end 3");
        refused(state, INDEX, "begin 0 3", "begin 3 3");
        refusedAlways(state);
    }

    /** Eight players and 40 puzzles; player 7 has tried the first and the last one. */
    private static void withFortyPuzzles() {
        StringBuilder state = new StringBuilder("enter;".repeat(8));
        for (String moves : new String[] {"00", "11", "33", "03", "30", "10", "01", "31", "13", "20"}) {
            String turn = "move " + moves.charAt(0) + "; move " + moves.charAt(1) + ";";
            state.append("begin 0 1;").append(turn.repeat(6)).append("end 1;");
        }
        state.append("solve 7 39 2; solve 7 0 0;");
        refused(state.toString(), STATE, "enter", "solve 7 39 2", "solve 7 39 0", "solve 7 0 2", "move 0", "end 0");
        refused(state.toString(), ARGUMENT, "solve 7 39 4", "solve 6 39 4", "solve 7 38 -1", "rating 7 5", "begin 7 7");
        refused(state.toString(), INDEX, "solve 7 40 0", "solve 8 39 2", "solve 8 40 4", "solve -1 -1 -1", "puzzle 40",
            "source 40", "score 8", "offered 8", "rating 8 0", "rating 8 5", "opponent 8", "hasWhite 8", "begin 8 8", "begin 7 8");
    }

    /** What throws in every state. */
    private static void refusedAlways(String state) {
        refused(state, ARGUMENT, "after 1000 0", "after 0 4", "after -1 -1", "worth -1", "worth 1000", "best -1", "best 1000");
        for (String call : LINE_CALLS) {
            refused(state, ARGUMENT, call + " 0 0", call + " 0 7", call + " 4 1", call + " -1 6", call + " 4096 6", call + " -1 -1");
        }
        refused(state, INDEX, "puzzle -1", "source -1", "score 8", "offered 8", "rating 8 5", "opponent 8", "hasWhite 8");
    }

    /** All that can be asked is too much for one object, so one is asked the half, and another one the rest. */
    private static void refused(String state, String thrown, String... calls) {
        for (int part = 0; part < 2; part++) {
            String[] want = answersBehind(part, new Run(CHECKS, "not refused"), state);
            for (String call : calls) {
                String name = call + ", refused behind " + state;
                String[] got = answersBehind(part, new Run(CHECKS, name), state + call + " = " + thrown);
                CHECKS.due(name + ": how many answers behind it", got.length, want.length);
                for (int i = 0; i < Math.min(got.length, want.length); i++) {
                    CHECKS.due(name + ": answer " + i + " behind it", got[i], want[i]);
                }
            }
        }
    }

    private static String[] answersBehind(int part, Run run, String calls) {
        run.rows(calls);
        String asked = part == 0 ? askedOfPlayersAndPuzzles(run) : askedOfTheBook(run);
        return (asked + run.rows(part == 0 ? DEEDS : ENDING)).split(" ");
    }

    private static String askedOfPlayersAndPuzzles(Run run) {
        StringBuilder asked = new StringBuilder(run.rows("position; games; puzzles"));
        for (int player = 0; player < 8; player++) {
            String questions = "score #; offered #; opponent #; hasWhite #; rating # 0; rating # 1; rating # 2; rating # 3; rating # 4";
            asked.append(run.rows(questions.replace("#", "" + player)));
        }
        for (int puzzle = 0; puzzle <= 40; puzzle++) {
            asked.append(run.rows("puzzle #; source #".replace("#", "" + puzzle)));
        }
        return asked.toString();
    }

    private static String askedOfTheBook(Run run) {
        StringBuilder asked = new StringBuilder();
        for (String call : LINE_CALLS) {
            for (int line = 0; line < 4; line++) {
                asked.append(run.rows(call + " " + line + " 1"));
            }
            for (int line = 0; line < 16; line++) {
                asked.append(run.rows(call + " " + line + " 2"));
            }
            for (int line : new int[] {0, 1, 4, 20, 31, 42, 63}) {
                asked.append(run.rows(call + " " + line + " 3; " + call + " " + line + " 4"));
                asked.append(run.rows(call + " " + line * 65 + " 6"));
            }
        }
        return asked.toString();
    }

    /** What is done at last: it would show a player, a move, a game, a try or a result that stayed behind. */
    private static final String DEEDS = "move 2; move 2; end 2; games; puzzles; begin 0 1; move 0; move 3; end 0;"
        + "solve 0 0 2; solve 0 1 3; solve 1 1 3; solve 2 0 2; solve 2 1 0; solve 7 0 2; solve 7 38 0; solve 6 39 2;"
        + "rating 0 1; rating 0 2; rating 1 2; rating 2 1; rating 6 3; rating 7 4; offered 0; offered 2; offered 7;"
        + "opponent 0; opponent 1; opponent 2; hasWhite 0; hasWhite 1; hasWhite 2; score 0; score 1; score 2;"
        + "enter; enter; begin 0 1; position; move 1; position; end 0; results 0 1; points 0 1; results 1 1; puzzles";

    private static final String ENDING = "move 0; move 1; end 1; games; puzzles; source 0; enter; begin 0 1; move 1; end 0;"
        + "begin 1 0; move 1; end 0; results 1 1; points 1 1; isDropped 1 1; pointsOfGames 1 1; pointsOfGames 0 1;"
        + "results 0 1; results 4 2; score 0; score 1; score 2; opponent 0; opponent 1; position";
}
