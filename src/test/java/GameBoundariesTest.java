import java.util.ArrayDeque;
import java.util.Arrays;
import java.util.Deque;

/** Promises 1 to 11: a test for each sentence of the document that names a boundary case. */
public final class GameBoundariesTest {
    private static final Checks CHECKS = new Checks("GameBoundariesTest");
    private static final int[] WRONG_POSITIONS = {-1, 1000, 1001, Integer.MIN_VALUE, Integer.MAX_VALUE};
    private static final int[] WRONG_MOVES = {-1, 4, 5, Integer.MIN_VALUE, Integer.MAX_VALUE};
    private static final int[] WRONG_RESULTS = {-1, 3, 4, Integer.MIN_VALUE, Integer.MAX_VALUE};

    public static void main(String[] args) {
        positionsAreBelowThousand();
        positionsTurnRound();
        movesAreFour();
        worthsAreFromMinusFiftyToFifty();
        bestOfAlikeOnesIsLowest();
        beginsWithoutPlayers();
        playersAreEight();
        gamesNeedTwoUnlikePlayers();
        oneGameAtATime();
        gamesAreSixty();
        gamesBeginWithOne();
        gamesHaveTwelveMoves();
        gamesMayHaveNoMoves();
        movesOfAGameAreFour();
        blundersLoseForty();
        resultsAreThree();
        noPositionWithoutAGame();
        onlyEndedGamesCount();
        scoresOfAllGames();
        theLastCall();
        CHECKS.finish();
    }

    private static Run run(String name) {
        return new Run(CHECKS, name);
    }

    private static Run run(String name, int players) {
        Run run = run(name);
        run.times(players, "enter = #");
        return run;
    }

    // ---- positions

    /** "Positions are 0 to 999". */
    private static void positionsAreBelowThousand() {
        Run run = run("positions are 0 to 999");
        run.rows("after 0 0 = 5; worth 0 = -50; best 0 = 0");
        run.rows("after 999 0 = 998; worth 999 = 48; best 999 = 2");
        run.each("after # 0 = IllegalArgumentException", WRONG_POSITIONS);
        run.each("after # 3 = IllegalArgumentException", WRONG_POSITIONS);
        run.each("worth # = IllegalArgumentException", WRONG_POSITIONS);
        run.each("best # = IllegalArgumentException", WRONG_POSITIONS);
    }

    /** "(7 * p + 13 * m + 5) modulo 1000". */
    private static void positionsTurnRound() {
        Run run = run("positions turn round");
        run.rows("after 142 0 = 999; after 283 1 = 999; after 285 0 = 0; after 428 0 = 1");
        run.rows("after 999 3 = 37; after 0 3 = 44");
        run("positions turn round in a game", 2).rows("begin 0 1; move 0; position = 12; move 0; position = 89;"
            + "move 0; position = 628; move 0; position = 401; move 0; position = 812");
    }

    /** "Moves are 0 to 3", and after "if position or move is out of range". */
    private static void movesAreFour() {
        Run run = run("moves are 0 to 3");
        run.rows("after 1 0 = 12; after 1 1 = 25; after 1 2 = 38; after 1 3 = 51");
        run.each("after 1 # = IllegalArgumentException", WRONG_MOVES);
        run.each("after 1000 # = IllegalArgumentException", WRONG_MOVES);
        run.each("after -1 # = IllegalArgumentException", WRONG_MOVES);
    }

    /** "(its number * 37) modulo 101 less 50": 0 and 100 are the least and the greatest remainder. */
    private static void worthsAreFromMinusFiftyToFifty() {
        Run run = run("worths are from -50 to 50");
        run.each("worth # = -50", 0, 101, 202, 303, 404, 505, 606, 707, 808, 909);
        run.each("worth # = 50", 30, 131, 232, 333, 434, 535, 636, 737, 838, 939);
        run.rows("worth 71 = -49; worth 60 = 49; worth 100 = 14; worth 102 = -13");
    }

    /** "of several the lowest": no position has several, and each move is the best one somewhere. */
    private static void bestOfAlikeOnesIsLowest() {
        for (int position = 0; position < 1000; position++) {
            Run run = run("the best move in " + position);
            int best = Integer.parseInt(run.rows("best " + position).strip());
            for (int move = 0; move < 4; move++) {
                if (move != best) {
                    int less = worthAfter(run, position, best) - worthAfter(run, position, move);
                    CHECKS.due("in " + position + " " + move + " is worth less by " + less, less > 0, true);
                }
            }
        }
        run("each move is the best one").rows("best 0 = 0; best 500 = 1; best 1 = 2; best 12 = 3");
    }

    private static int worthAfter(Run run, int position, int move) {
        String after = run.call("after", position, move, 0);
        return Integer.parseInt(run.call("worth", Integer.parseInt(after), 0, 0));
    }

    // ---- players

    /** "Begins without players". */
    private static void beginsWithoutPlayers() {
        Run run = run("begins without players");
        String[] calls = {"score #", "offered #", "rating # 0", "rating # 5", "opponent #", "hasWhite #",
            "begin # #", "begin # 1", "solve # 0 0", "solve # 0 4"};
        for (String call : calls) {
            run.each(call + " = IndexOutOfBoundsException", 0, -1, 1, 7, 8);
        }
        run.rows("games = 0; puzzles = 0; position = -1; enter = 0; score 0 = 0");
    }

    /** "Players are numbered from 0, at most 8", and enter "if there are 8". */
    private static void playersAreEight() {
        String[] calls = {"score # = 0", "rating # 4 = 1000", "offered # = -1"};
        Run run = run("players are at most 8");
        for (int player = 0; player < 8; player++) {
            for (String call : calls) {
                run.each(call.replaceAll("=.*", "= IndexOutOfBoundsException"), player);
            }
            run.rows("enter = " + player);
            for (String call : calls) {
                run.each(call, player);
            }
        }
        run.times(3, "enter = IllegalStateException");
        for (String call : calls) {
            run.each(call, 0, 1, 2, 3, 4, 5, 6, 7);
            run.each(call.replaceAll("=.*", "= IndexOutOfBoundsException"), 8, 9, -1);
        }
        run.rows("begin 7 6 = 0; end 2; score 7 = 2; begin 0 8 = IndexOutOfBoundsException");
    }

    // ---- games

    /** "A game is of two unlike players", and begin "if there is no such player, of either". */
    private static void gamesNeedTwoUnlikePlayers() {
        Run one = run("games of one player", 1);
        one.rows("begin 0 0 = IllegalArgumentException; begin 0 1 = IndexOutOfBoundsException");
        one.rows("begin 1 0 = IndexOutOfBoundsException; begin 1 1 = IndexOutOfBoundsException; position = -1");
        Run run = run("games of eight players", 8);
        run.each("begin # # = IllegalArgumentException", 0, 1, 2, 3, 4, 5, 6, 7);
        run.each("begin 0 # = IndexOutOfBoundsException", -1, 8, Integer.MIN_VALUE, Integer.MAX_VALUE);
        run.each("begin # 7 = IndexOutOfBoundsException", -1, 8, Integer.MIN_VALUE, Integer.MAX_VALUE);
        run.rows("begin 0 7 = 0; end 0; begin 7 0 = 1; end 0; begin 6 7 = 2; end 0; score 0 = 2; score 7 = 4");
    }

    /** "one game goes on at a time", and begin "if a game goes on". */
    private static void oneGameAtATime() {
        Run run = run("one game at a time", 4);
        run.rows("begin 0 1 = 0; begin 2 3 = IllegalStateException; begin 0 1 = IllegalStateException");
        run.rows("move 2; begin 2 3 = IllegalStateException; position = 38; end 2 = 0");
        run.rows("score 0 = 2; score 2 = 0; score 3 = 0; begin 2 3 = 1");
    }

    /** "Games are numbered from 0, at most 60", and begin "or there were 60". */
    private static void gamesAreSixty() {
        Run run = run("games are at most 60", 3);
        run.times(59, "begin 0 1 = #; end 1 = 0");
        run.rows("games = 59; begin 1 2 = 59; games = 59; begin 0 1 = IllegalStateException");
        run.rows("move 0 = true; end 2 = 1; games = 60; source 0 = 59; score 1 = 61; score 2 = 0");
        run.times(2, "begin 0 1 = IllegalStateException; games = 60; position = -1");
        run.rows("move 0 = IllegalStateException; end 0 = IllegalStateException; solve 0 0 2 = true; enter = 3");
    }

    /** "a game begins with 1". */
    private static void gamesBeginWithOne() {
        Run run = run("a game begins with 1", 2);
        run.rows("begin 0 1; position = 1; move 3; position = 51; end 1; begin 1 0; position = 1");
    }

    /** "of at most 12 moves", and move "or it has 12 moves". */
    private static void gamesHaveTwelveMoves() {
        Run run = run("a game has at most 12 moves", 2);
        run.rows("begin 0 1");
        run.times(11, "move 2");
        run.rows("position = 910; move 3 = false; position = 414");
        run.each("move # = IllegalStateException", 0, 1, 2, 3);
        run.each("move # = IllegalArgumentException", WRONG_MOVES);
        run.rows("position = 414; games = 0; end 2 = 7; begin 0 1 = 1");
        run.times(12, "move 2; games = 1");
        run.rows("move 2 = IllegalStateException");
    }

    /** A game may end at once: "at most 12 moves" names no least number. */
    private static void gamesMayHaveNoMoves() {
        Run run = run("a game without moves", 2);
        run.rows("begin 1 0 = 0; end 0 = 0; games = 1; score 0 = 2; puzzles = 0; begin 0 1 = 1; end 2 = 0; score 0 = 4");
    }

    /** move "if move is out of range", "if no game goes on". */
    private static void movesOfAGameAreFour() {
        Run run = run("moves of a game are 0 to 3", 2);
        run.each("move # = IllegalStateException", 0, 1, 2, 3);
        run.each("move # = IllegalArgumentException", WRONG_MOVES);
        run.rows("begin 0 1");
        run.each("move # = IllegalArgumentException", WRONG_MOVES);
        run.rows("position = 1; move 0 = true; position = 12; move 3 = false; position = 128");
    }

    /** "at least 40 less": of what occurs, 29 is next below it and 43 next above; each case is played. */
    private static void blundersLoseForty() {
        int[] losses = new int[101];
        String[] ways = waysToPositions();
        for (int position = 0; position < 1000; position++) {
            for (int move = 0; move < 4; move++) {
                losses[dueBlunder(ways[position], position, move)]++;
            }
        }
        int[] near = Arrays.copyOfRange(losses, 29, 44);
        CHECKS.due("how often 29 to 43 are lost", Arrays.toString(near),
            "[228, 0, 0, 0, 0, 0, 0, 0, 0, 0, 0, 0, 0, 0, 11]");
    }

    /** Plays a game that blunders with its last move, or doesn't; answers how much that move loses. */
    private static int dueBlunder(String way, int position, int move) {
        Run run = run("move " + move + " in " + position, 2);
        int best = Integer.parseInt(run.call("best", position, 0, 0));
        int loss = worthAfter(run, position, best) - worthAfter(run, position, move);
        boolean blunder = loss >= 40;
        run.rows("begin 0 1");
        int made = 0;
        for (char step : way.toCharArray()) {
            made += run.rows("move " + step).equals("true ") ? 1 : 0;
        }
        run.rows("position = " + position + "; move " + move + " = " + blunder);
        run.rows("end 1 = " + (blunder ? made + 1 : made));
        if (blunder) {
            run.rows("puzzle " + made + " = " + position);
        }
        return loss;
    }

    /** The shortest row of moves from the beginning to each position; all need less than 12. */
    private static String[] waysToPositions() {
        String[] ways = new String[1000];
        ways[1] = "";
        Deque<Integer> open = new ArrayDeque<>();
        open.add(1);
        while (!open.isEmpty()) {
            int position = open.remove();
            for (int move = 0; move < 4; move++) {
                int next = (7 * position + 13 * move + 5) % 1000;
                if (ways[next] == null) {
                    ways[next] = ways[position] + move;
                    open.add(next);
                }
            }
        }
        return ways;
    }

    /** "2 white wins, 1 a draw, 0 black wins", and end "if result is out of range", "if no game goes on". */
    private static void resultsAreThree() {
        Run run = run("results are 0 to 2", 2);
        run.each("end # = IllegalStateException", 0, 1, 2);
        run.each("end # = IllegalArgumentException", WRONG_RESULTS);
        run.rows("begin 0 1");
        run.each("end # = IllegalArgumentException", WRONG_RESULTS);
        run.rows("position = 1; games = 0; end 0 = 0; score 0 = 0; score 1 = 2; end 0 = IllegalStateException");
        run.rows("begin 0 1; end 1; score 0 = 1; score 1 = 3; begin 0 1; end 2; score 0 = 3; score 1 = 3");
        run.rows("end 2 = IllegalStateException; games = 3");
    }

    /** "-1 if none does". */
    private static void noPositionWithoutAGame() {
        Run run = run("no position without a game", 2);
        run.rows("position = -1; begin 0 0; position = -1; begin 0 1; position = 1; move 0; position = 12");
        run.rows("end 3; position = 12; end 0; position = -1");
    }

    /** "how many games have ended". */
    private static void onlyEndedGamesCount() {
        Run run = run("only ended games count");
        run.rows("games = 0; enter; enter; games = 0; begin 0 1; games = 0; move 1; games = 0; end 1; games = 1");
        run.rows("begin 0 1; games = 1; begin 0 1; games = 1; end 1; games = 2; end 1; games = 2");
    }

    /** "white's score grows by the result, black's by 2 less the result": all 60 games won, or lost. */
    private static void scoresOfAllGames() {
        Run white = run("white wins 60 games", 2);
        white.times(60, "begin 0 1; end 2");
        white.rows("score 0 = 120; score 1 = 0");
        Run black = run("black wins 60 games", 2);
        black.times(60, "begin 0 1; end 0");
        black.rows("score 0 = 0; score 1 = 120");
        Run draws = run("60 draws", 2);
        draws.times(60, "begin 0 1; end 1");
        draws.rows("score 0 = 60; score 1 = 60");
    }

    /** "at most 512 calls after it has been made": the 512th still answers as due. */
    private static void theLastCall() {
        Run run = run("the 512th call", 2);
        run.rows("begin 0 1; move 0");
        run.times(507, "position = 12");
        run.rows("end 2 = 1");
        CHECKS.due("calls of the run", run.calls(), 512);
    }
}
