/** Promises 18 to 22: a test for each sentence of the document that names a boundary case. */
public final class BookBoundariesTest {
    private static final Checks CHECKS = new Checks("BookBoundariesTest");
    private static final String[] CALLS = {"results", "points", "isDropped", "pointsOfGames", "mean"};
    private static final String[] NOTHING = {"0", "0", "false", "0", "0.0"};
    /** A way through the tree with each move in it. */
    private static final String WAY = "312032";

    public static void main(String[] args) {
        linesBeginAtNought();
        linesHaveOneToSixMoves();
        firstMoveIsLowest();
        nothingInTheBook();
        gamesShorterThanALine();
        rowsOfOneToSixMoves();
        gameThatGoesOnIsNotKept();
        threeResults();
        exactlyAThird();
        lessThanAThird();
        onePointBelowAThird();
        allLinesThatBeginWithIt();
        droppedOnesStayDropped();
        lookedAtBehindTheGame();
        lookedAtByTheNumberOfMoves();
        meanWithoutResults();
        meansOfThirds();
        sixtyResults();
        CHECKS.finish();
    }

    private static Run run(String name) {
        Run run = new Run(CHECKS, name);
        run.rows("enter; enter");
        return run;
    }

    private static int number(String moves) {
        int line = 0;
        for (int i = moves.length() - 1; i >= 0; i--) {
            line = 4 * line + moves.charAt(i) - '0';
        }
        return line;
    }

    /** The results, the points, whether it is dropped, and the points of games of a line, told by its moves. */
    private static void due(Run run, String moves, int results, int points, boolean dropped, int ofGames) {
        String[] answers = {"" + results, "" + points, "" + dropped, "" + ofGames};
        for (int i = 0; i < answers.length; i++) {
            run.rows(CALLS[i] + " " + number(moves) + " " + moves.length() + " = " + answers[i]);
        }
    }

    private static void playAll(Run run, String moves, int... results) {
        for (int result : results) {
            run.play(0, 1, moves, result);
        }
    }

    // ---- which lines there are

    /** line is "0 to 4 to the power of moves, less 1". */
    private static void linesBeginAtNought() {
        for (int i = 0; i < CALLS.length; i++) {
            Run run = run("lines of " + CALLS[i]);
            for (int moves = 1; moves <= 6; moves++) {
                int end = 1 << 2 * moves;
                run.each(CALLS[i] + " # " + moves + " = " + NOTHING[i], 0, 1, end - 2, end - 1);
                run.each(CALLS[i] + " # " + moves + " = IllegalArgumentException",
                    -1, -2, -end, end, end + 1, 4 * end, Integer.MIN_VALUE, Integer.MAX_VALUE);
            }
        }
    }

    /** moves is "1 to 6". */
    private static void linesHaveOneToSixMoves() {
        for (int i = 0; i < CALLS.length; i++) {
            Run run = run("numbers of moves of " + CALLS[i]);
            run.each(CALLS[i] + " 3 # = " + NOTHING[i], 1, 2, 3, 4, 5, 6);
            for (int line : new int[] {-1, 0, 1, 4096}) {
                run.each(CALLS[i] + " " + line + " # = IllegalArgumentException",
                    0, 7, 8, -1, -2, 15, 16, 17, 18, 31, 32, 33, Integer.MIN_VALUE, Integer.MIN_VALUE + 1, Integer.MAX_VALUE);
            }
        }
    }

    /** "lines are told by their moves in base 4, the first one lowest": the first line and the last one. */
    private static void firstMoveIsLowest() {
        Run run = run("the first move is lowest");
        playAll(run, "000003", 2);
        playAll(run, "333333", 2);
        playAll(run, "300000", 2);
        run.rows("results 3072 6 = 1; results 4095 6 = 1; results 3 6 = 1; results 0 6 = 0; results 0 5 = 1; results 3 5 = 1");
        run.rows("results 1023 5 = 1; results 0 1 = 1; results 3 1 = 2; results 15 2 = 1; results 12 2 = 0");
    }

    // ---- what is in the book

    /** results "0 if it is not in the book", and the others, while there is nothing yet. */
    private static void nothingInTheBook() {
        Run run = run("nothing in the book");
        for (int length = 1; length <= 6; length++) {
            due(run, WAY.substring(0, length), 0, 0, false, 0);
        }
        run.rows("mean 0 1 = 0.0; mean 4095 6 = 0.0");
        playAll(run, WAY, 2);
        due(run, "0", 0, 0, false, 0);
        due(run, "310", 0, 0, false, 0);
        due(run, "312033", 0, 0, false, 0);
        due(run, "12032", 0, 0, false, 0);
    }

    /** A game of fewer moves than a line is none of its games, even if the line goes on with move 0. */
    private static void gamesShorterThanALine() {
        for (int length = 0; length <= 5; length++) {
            Run run = run("a game of " + length + " moves");
            String game = "000000".substring(0, length);
            playAll(run, game, 2);
            for (int lineLength = 1; lineLength <= 6; lineLength++) {
                boolean kept = lineLength <= length;
                due(run, "000000".substring(0, lineLength), kept ? 1 : 0, kept ? 2 : 0, false, kept ? 2 : 0);
            }
        }
    }

    /** "each row of its first moves, of 1 to 6 moves": of a game of 6 moves, of 7 and of 12. */
    private static void rowsOfOneToSixMoves() {
        for (String game : new String[] {WAY, WAY + "1", WAY + "102312"}) {
            Run run = run("rows of " + game);
            playAll(run, game, 1);
            for (int length = 1; length <= 6; length++) {
                due(run, WAY.substring(0, length), 1, 1, false, 1);
            }
            due(run, "1", 0, 0, false, 0);
        }
    }

    /** "When a game ends", and "all games that have ended". */
    private static void gameThatGoesOnIsNotKept() {
        Run run = run("a game that goes on");
        run.rows("begin 0 1; move 2; move 2");
        due(run, "2", 0, 0, false, 0);
        run.rows("end 3 = IllegalArgumentException");
        due(run, "22", 0, 0, false, 0);
        run.rows("end 2");
        due(run, "2", 1, 2, false, 2);
        due(run, "22", 1, 2, false, 2);
    }

    // ---- dropping, for lines of each number of moves

    /** The result that is worst for the side of a line of so many moves; the best one is 2 less it. */
    private static int worst(int length) {
        return length % 2 == 1 ? 0 : 2;
    }

    /** Six draws of the line without its last move, so that lines ahead of it stay. */
    private static Run runOfLine(String name, int length) {
        Run run = run(name + " of " + length + " moves");
        playAll(run, WAY.substring(0, length - 1), 1, 1, 1, 1, 1, 1);
        return run;
    }

    private static void dueAhead(Run run, int length, int... results) {
        int sum = 6;
        for (int result : results) {
            sum += result;
        }
        for (int ahead = 1; ahead < length; ahead++) {
            due(run, WAY.substring(0, ahead), 6 + results.length, sum, false, sum);
        }
    }

    /** "if it has at least 3 results": two without any points are too few. */
    private static void threeResults() {
        for (int length = 1; length <= 6; length++) {
            Run run = runOfLine("three results", length);
            String line = WAY.substring(0, length);
            int worst = worst(length);
            playAll(run, line, worst);
            due(run, line, 1, worst, false, worst);
            playAll(run, line, worst);
            due(run, line, 2, 2 * worst, false, 2 * worst);
            playAll(run, line, worst);
            due(run, line, 3, 3 * worst, true, 3 * worst);
            dueAhead(run, length, worst, worst, worst);
        }
    }

    /** "less than a third of the points": 2 of 6, and 4 of 12, are a third. */
    private static void exactlyAThird() {
        for (int length = 1; length <= 6; length++) {
            Run run = runOfLine("exactly a third", length);
            String line = WAY.substring(0, length);
            int worst = worst(length);
            playAll(run, line, 2 - worst, worst, worst);
            due(run, line, 3, 2 + worst, false, 2 + worst);
            dueAhead(run, length, 2 - worst, worst, worst);
            playAll(run, line, 1, 1, worst);
            due(run, line, 6, 4 + 2 * worst, false, 4 + 2 * worst);
            dueAhead(run, length, 2 - worst, worst, worst, 1, 1, worst);
        }
    }

    /** The same with one result more: 2 of 8 are less than a third. */
    private static void lessThanAThird() {
        for (int length = 1; length <= 6; length++) {
            Run run = runOfLine("less than a third", length);
            String line = WAY.substring(0, length);
            int worst = worst(length);
            playAll(run, line, 2 - worst, worst, worst);
            due(run, line, 3, 2 + worst, false, 2 + worst);
            playAll(run, line, worst);
            due(run, line, 4, 2 + 2 * worst, true, 2 + 2 * worst);
            dueAhead(run, length, 2 - worst, worst, worst, worst);
        }
    }

    /** One point less than a third: 1 of 6 as soon as there are three results. */
    private static void onePointBelowAThird() {
        for (int length = 1; length <= 6; length++) {
            Run run = runOfLine("one point less than a third", length);
            String line = WAY.substring(0, length);
            int worst = worst(length);
            playAll(run, line, worst, 1);
            due(run, line, 2, 1 + worst, false, 1 + worst);
            playAll(run, line, worst);
            due(run, line, 3, 1 + 2 * worst, true, 1 + 2 * worst);
            dueAhead(run, length, worst, 1, worst);
        }
    }

    /** "with all lines that begin with it": those in the book, and those that are not. */
    private static void allLinesThatBeginWithIt() {
        Run run = run("all lines that begin with it");
        playAll(run, "012012", 2, 2, 2);
        due(run, "0", 3, 6, false, 6);
        due(run, "01", 3, 6, true, 6);
        due(run, "012", 3, 6, true, 6);
        due(run, "012012", 3, 6, true, 6);
        due(run, "010", 0, 0, true, 0);
        due(run, "013333", 0, 0, true, 0);
        due(run, "00", 0, 0, false, 0);
        due(run, "02", 0, 0, false, 0);
        due(run, "001", 0, 0, false, 0);
        due(run, "1", 0, 0, false, 0);
        due(run, "101", 0, 0, false, 0);
        // A line that begins with a dropped one does not come into the book, the others do.
        playAll(run, "013", 0);
        due(run, "013", 0, 0, true, 0);
        due(run, "01", 3, 6, true, 6);
        due(run, "0", 4, 6, false, 6);
        playAll(run, "00", 1);
        due(run, "00", 1, 1, false, 1);
        due(run, "0", 5, 7, false, 7);
    }

    /** "dropped lines stay dropped", and results "dropped ones keep theirs". */
    private static void droppedOnesStayDropped() {
        Run run = run("dropped ones stay dropped");
        playAll(run, "20", 0, 0, 0);
        due(run, "2", 3, 0, true, 0);
        due(run, "20", 3, 0, true, 0);
        for (int game = 4; game <= 60; game++) {
            run.play(game % 2, 1 - game % 2, "20", 2);
        }
        run.rows("games = 60");
        due(run, "2", 3, 0, true, 114);
        due(run, "20", 3, 0, true, 114);
        run.rows("mean 2 1 = 0.0; begin 0 1 = IllegalStateException");
        due(run, "2", 3, 0, true, 114);
    }

    /** "behind each game": the game that drops a line still counts in all its lines, the next in none. */
    private static void lookedAtBehindTheGame() {
        Run run = run("looked at behind the game");
        playAll(run, "111111", 0, 0, 0);
        for (int length = 1; length <= 6; length++) {
            due(run, "111111".substring(0, length), 3, 0, true, 0);
        }
        playAll(run, "111111", 1);
        for (int length = 1; length <= 6; length++) {
            due(run, "111111".substring(0, length), 3, 0, true, 1);
        }
    }

    /** "looked at by the number of their moves": of lines that do badly at once, all are dropped. */
    private static void lookedAtByTheNumberOfMoves() {
        Run run = run("looked at by the number of moves");
        playAll(run, "3", 2, 2, 2);
        playAll(run, "321", 0, 0, 0);
        due(run, "3", 6, 6, false, 6);
        due(run, "32", 3, 0, false, 0);
        due(run, "321", 3, 0, true, 0);
        playAll(run, "32", 2, 2, 2, 2, 2);
        due(run, "32", 8, 10, false, 10);
        playAll(run, "32", 2);
        due(run, "32", 9, 12, false, 12);
        playAll(run, "32", 2);
        due(run, "32", 10, 14, true, 14);
        due(run, "321", 3, 0, true, 0);
        due(run, "322", 0, 0, true, 0);
        due(run, "3", 13, 20, false, 20);
    }

    // ---- means

    /** mean "0 without results". */
    private static void meanWithoutResults() {
        Run run = run("mean without results");
        run.each("mean 0 # = 0.0", 1, 2, 3, 4, 5, 6);
        playAll(run, "0", 2);
        run.rows("mean 0 1 = 2.0; mean 0 2 = 0.0; mean 1 1 = 0.0; mean 4 2 = 0.0");
        playAll(run, "", 2);
        run.rows("mean 0 1 = 2.0");
    }

    /** "its points, as a float, divided by how many results it has, as a float". */
    private static void meansOfThirds() {
        Run run = run("means of thirds");
        playAll(run, "1", 0);
        run.rows("mean 1 1 = 0.0");
        playAll(run, "1", 1);
        run.rows("mean 1 1 = 0.5");
        playAll(run, "1", 1);
        run.rows("mean 1 1 = 0.6666667");
        playAll(run, "1", 2, 1, 1, 1);
        run.rows("mean 1 1 = 1.0");
        playAll(run, "1", 2, 2, 2, 2);
        run.rows("results 1 1 = 11; points 1 1 = 15; mean 1 1 = 1.3636364");
    }

    /** As many results as there may be: those of 60 games. */
    private static void sixtyResults() {
        Run run = run("60 results");
        run.times(60, "begin 0 1; move 1; move 2; end 2");
        due(run, "1", 60, 120, false, 120);
        due(run, "12", 3, 6, true, 120);
        run.rows("mean 1 1 = 2.0; mean 9 2 = 2.0");
        Run draws = run("60 draws");
        draws.times(60, "begin 0 1; move 1; move 2; end 1");
        due(draws, "1", 60, 60, false, 60);
        due(draws, "12", 60, 60, false, 60);
        draws.rows("mean 1 1 = 1.0; mean 9 2 = 1.0");
    }
}
