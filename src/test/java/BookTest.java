/** Promises 18 to 22: results, points, isDropped, pointsOfGames, mean. */
public final class BookTest {
    private static final Checks CHECKS = new Checks("BookTest");

    public static void main(String[] args) {
        emptyBook();
        linesOfAGame();
        shortGames();
        gameThatGoesOn();
        whiteLineIsDropped();
        blackLineIsDropped();
        bounds();
        longLineIsDropped();
        droppedTogether();
        mean();
        pointsOfGames();
        wrongLines();
        CHECKS.finish();
    }

    private static void dueLine(String when, ClubAcademy academy, int results, int points, boolean dropped, int... moves) {
        int line = Checks.line(moves);
        String what = when + ", line " + line + " of " + moves.length;
        CHECKS.due(what + ": results", academy.results(line, moves.length), results);
        CHECKS.due(what + ": points", academy.points(line, moves.length), points);
        CHECKS.due(what + ": dropped", academy.isDropped(line, moves.length), dropped);
    }

    private static void dueOfGames(String when, ClubAcademy academy, int points, int... moves) {
        int line = Checks.line(moves);
        String what = when + ", line " + line + " of " + moves.length + ": points of games";
        CHECKS.due(what, academy.pointsOfGames(line, moves.length), points);
    }

    private static void emptyBook() {
        ClubAcademy academy = new ClubAcademy();
        for (int moves = 1; moves <= 6; moves++) {
            int last = (1 << 2 * moves) - 1;
            CHECKS.due("results of the last line", academy.results(last, moves), 0);
            CHECKS.due("points of the last line", academy.points(last, moves), 0);
            CHECKS.due("the last line is dropped", academy.isDropped(last, moves), false);
            CHECKS.due("points of games of the last line", academy.pointsOfGames(last, moves), 0);
            CHECKS.due("mean of the last line", academy.mean(last, moves), 0.0f);
        }
    }

    private static void linesOfAGame() {
        ClubAcademy academy = Checks.withPlayers(2);
        Checks.play(academy, 0, 1, 2, 0, 1, 2, 3, 3, 2, 1, 0);
        dueLine("one game", academy, 1, 2, false, 0);
        dueLine("one game", academy, 1, 2, false, 0, 1);
        dueLine("one game", academy, 1, 2, false, 0, 1, 2);
        dueLine("one game", academy, 1, 2, false, 0, 1, 2, 3);
        dueLine("one game", academy, 1, 2, false, 0, 1, 2, 3, 3);
        dueLine("one game", academy, 1, 2, false, 0, 1, 2, 3, 3, 2);
        CHECKS.due("first move lowest", academy.results(4, 2), 1);
        CHECKS.due("not the last move lowest", academy.results(1, 2), 0);
        dueLine("another move", academy, 0, 0, false, 1);
        dueLine("another second move", academy, 0, 0, false, 0, 0);
        dueLine("another sixth move", academy, 0, 0, false, 0, 1, 2, 3, 3, 3);
        Checks.play(academy, 1, 0, 1, 0, 1, 3);
        dueLine("two games", academy, 2, 3, false, 0, 1);
        dueLine("two games", academy, 1, 1, false, 0, 1, 3);
        dueLine("two games", academy, 1, 2, false, 0, 1, 2);
    }

    private static void shortGames() {
        ClubAcademy academy = Checks.withPlayers(2);
        Checks.play(academy, 0, 1, 2);
        dueLine("a game without moves", academy, 0, 0, false, 0);
        dueOfGames("a game without moves", academy, 0, 0);
        Checks.play(academy, 0, 1, 2, 0);
        dueLine("a game of one move", academy, 1, 2, false, 0);
        dueLine("a game of one move", academy, 0, 0, false, 0, 0);
        dueOfGames("a game of one move", academy, 2, 0);
        dueOfGames("a game of one move", academy, 0, 0, 0);
    }

    private static void gameThatGoesOn() {
        ClubAcademy academy = Checks.withPlayers(2);
        Checks.play(academy, 0, 1, 2, 3);
        academy.begin(0, 1);
        academy.move(3);
        dueLine("while a game goes on", academy, 1, 2, false, 3);
        dueOfGames("while a game goes on", academy, 2, 3);
        academy.end(2);
        dueLine("behind it", academy, 2, 4, false, 3);
        dueOfGames("behind it", academy, 4, 3);
    }

    private static void whiteLineIsDropped() {
        ClubAcademy academy = Checks.withPlayers(2);
        Checks.play(academy, 0, 1, 0, 2, 1);
        Checks.play(academy, 0, 1, 0, 2, 1);
        dueLine("two results are too few", academy, 2, 0, false, 2);
        Checks.play(academy, 0, 1, 0, 2, 3);
        dueLine("three results", academy, 3, 0, true, 2);
        dueLine("a line that begins with it", academy, 2, 0, true, 2, 1);
        dueLine("one that is not in the book", academy, 0, 0, true, 2, 2);
        dueLine("one of six moves", academy, 0, 0, true, 2, 0, 0, 0, 0, 3);
        dueLine("another one", academy, 0, 0, false, 1);
        dueLine("one that ends with it", academy, 0, 0, false, 0, 2);
        Checks.play(academy, 0, 1, 2, 2, 1, 0);
        dueLine("behind a game more", academy, 3, 0, true, 2);
        dueLine("behind a game more", academy, 2, 0, true, 2, 1);
        dueLine("behind a game more", academy, 0, 0, true, 2, 1, 0);
        dueOfGames("behind a game more", academy, 2, 2);
        dueOfGames("behind a game more", academy, 2, 2, 1);
        dueOfGames("behind a game more", academy, 0, 2, 3);
        for (int i = 0; i < 5; i++) {
            Checks.play(academy, 0, 1, 2, 2, 1);
        }
        dueLine("dropped lines stay dropped", academy, 3, 0, true, 2);
        dueOfGames("dropped lines stay dropped", academy, 12, 2);
        CHECKS.due("mean of a dropped line", academy.mean(2, 1), 0.0f);
    }

    private static void blackLineIsDropped() {
        ClubAcademy academy = Checks.withPlayers(2);
        Checks.play(academy, 0, 1, 2, 1, 1, 0);
        Checks.play(academy, 0, 1, 2, 1, 1, 0);
        dueLine("two results are too few", academy, 2, 4, false, 1, 1);
        Checks.play(academy, 0, 1, 1, 1, 1, 0);
        dueLine("white's line does well", academy, 3, 5, false, 1);
        dueLine("black has one point of six", academy, 3, 5, true, 1, 1);
        dueLine("a line that begins with it", academy, 3, 5, true, 1, 1, 0);
        Checks.play(academy, 0, 1, 0, 1, 1, 0);
        dueLine("the line ahead goes on", academy, 4, 5, false, 1);
        dueLine("the dropped one keeps its results", academy, 3, 5, true, 1, 1);
        dueOfGames("the games have more", academy, 5, 1, 1);
    }

    /** A side with exactly a third of the points is not dropped: 2 of 3 games' 6, or 4 of 6 games' 12. */
    private static void bounds() {
        ClubAcademy white = Checks.withPlayers(2);
        Checks.play(white, 0, 1, 2, 0);
        Checks.play(white, 0, 1, 0, 0);
        Checks.play(white, 0, 1, 0, 0);
        dueLine("2 of 6 points", white, 3, 2, false, 0);
        Checks.play(white, 0, 1, 1, 0);
        Checks.play(white, 0, 1, 1, 0);
        Checks.play(white, 0, 1, 0, 0);
        dueLine("4 of 12 points", white, 6, 4, false, 0);
        Checks.play(white, 0, 1, 0, 0);
        dueLine("4 of 14 points", white, 7, 4, true, 0);
        ClubAcademy few = Checks.withPlayers(2);
        Checks.play(few, 0, 1, 1, 0);
        Checks.play(few, 0, 1, 0, 0);
        Checks.play(few, 0, 1, 0, 0);
        dueLine("1 of 6 points", few, 3, 1, true, 0);
        ClubAcademy black = Checks.withPlayers(2);
        Checks.play(black, 0, 1, 0, 0, 0);
        Checks.play(black, 0, 1, 2, 0, 0);
        Checks.play(black, 0, 1, 2, 0, 0);
        dueLine("2 of 6 points for black", black, 3, 4, false, 0, 0);
        Checks.play(black, 0, 1, 2, 0, 0);
        dueLine("2 of 8 points for black", black, 4, 6, true, 0, 0);
    }

    /** Lines of one to five moves do well enough by other games; those of six and five are dropped. */
    private static void longLineIsDropped() {
        ClubAcademy academy = Checks.withPlayers(2);
        for (int i = 0; i < 2; i++) {
            Checks.play(academy, 0, 1, 0, 3, 2, 1, 0, 3);
        }
        for (int i = 0; i < 3; i++) {
            Checks.play(academy, 0, 1, 2, 3, 2, 1, 0, 3, 1, 1);
        }
        dueLine("six moves", academy, 3, 6, true, 3, 2, 1, 0, 3, 1);
        dueLine("five moves", academy, 5, 6, false, 3, 2, 1, 0, 3);
        dueLine("other six moves", academy, 0, 0, false, 3, 2, 1, 0, 3, 0);
        ClubAcademy other = Checks.withPlayers(2);
        Checks.play(other, 0, 1, 1, 3, 2, 1, 0);
        Checks.play(other, 0, 1, 1, 3, 2, 1, 0);
        Checks.play(other, 0, 1, 2, 3, 2, 1, 0);
        for (int i = 0; i < 3; i++) {
            Checks.play(other, 0, 1, 0, 3, 2, 1, 0, 3, 1);
        }
        dueLine("five moves of white", other, 3, 0, true, 3, 2, 1, 0, 3);
        dueLine("six moves that begin with them", other, 3, 0, true, 3, 2, 1, 0, 3, 1);
        dueLine("four moves", other, 6, 4, false, 3, 2, 1, 0);
        dueLine("three moves", other, 6, 4, false, 3, 2, 1);
    }

    /** The game that drops a line still gives its result to the longer ones: lines are dropped behind it. */
    private static void droppedTogether() {
        ClubAcademy academy = Checks.withPlayers(2);
        for (int i = 0; i < 3; i++) {
            Checks.play(academy, 0, 1, 0, 0, 0, 0, 0, 0, 0);
        }
        dueLine("three lost games", academy, 3, 0, true, 0);
        dueLine("three lost games", academy, 3, 0, true, 0, 0);
        dueLine("three lost games", academy, 3, 0, true, 0, 0, 0, 0, 0, 0);
        dueLine("another beginning", academy, 0, 0, false, 3, 0);
        Checks.play(academy, 0, 1, 2, 0, 0, 0, 0, 0, 0);
        dueLine("behind another game", academy, 3, 0, true, 0, 0, 0, 0, 0, 0);
    }

    private static void mean() {
        ClubAcademy academy = Checks.withPlayers(2);
        CHECKS.due("mean without results", academy.mean(0, 1), 0.0f);
        Checks.play(academy, 0, 1, 2, 0, 3);
        CHECKS.due("mean of 2", academy.mean(0, 1), 2.0f);
        Checks.play(academy, 0, 1, 1, 0, 3);
        CHECKS.due("mean of 2 and 1", academy.mean(12, 2), 1.5f);
        Checks.play(academy, 0, 1, 1, 0, 3);
        CHECKS.due("mean of 2, 1 and 1", academy.mean(12, 2), 4.0f / 3.0f);
        CHECKS.due("mean of a line that is not there", academy.mean(3, 2), 0.0f);
        ClubAcademy lost = Checks.withPlayers(2);
        Checks.play(lost, 0, 1, 0, 1);
        CHECKS.due("mean of 0", lost.mean(1, 1), 0.0f);
    }

    private static void pointsOfGames() {
        ClubAcademy academy = Checks.withPlayers(2);
        Checks.play(academy, 0, 1, 2, 0, 1, 2, 3, 0, 1, 2, 3);
        Checks.play(academy, 1, 0, 1, 0, 1, 2, 3, 0, 2);
        Checks.play(academy, 1, 0, 2, 0, 1, 2);
        Checks.play(academy, 1, 0, 2, 1);
        dueOfGames("four games", academy, 5, 0);
        dueOfGames("four games", academy, 5, 0, 1, 2);
        dueOfGames("four games", academy, 3, 0, 1, 2, 3);
        dueOfGames("four games", academy, 2, 0, 1, 2, 3, 0, 1);
        dueOfGames("four games", academy, 1, 0, 1, 2, 3, 0, 2);
        dueOfGames("four games", academy, 2, 1);
        dueOfGames("four games", academy, 0, 2);
    }

    private static void wrongLines() {
        ClubAcademy academy = Checks.withPlayers(2);
        Checks.play(academy, 0, 1, 2, 0, 0, 0, 0, 0, 0, 0);
        for (int moves = 1; moves <= 6; moves++) {
            int end = 1 << 2 * moves;
            int[] wrong = {-1, end, end + 1, Integer.MIN_VALUE, Integer.MAX_VALUE};
            for (int line : wrong) {
                dueWrong(academy, line, moves);
            }
        }
        int[] wrongMoves = {0, -1, 7, 16, 32, 33, Integer.MIN_VALUE, Integer.MAX_VALUE};
        for (int moves : wrongMoves) {
            dueWrong(academy, 0, moves);
            dueWrong(academy, -1, moves);
        }
    }

    private static void dueWrong(ClubAcademy academy, int line, int moves) {
        String arguments = "(" + line + ", " + moves + ")";
        CHECKS.dueArgument("results" + arguments, () -> academy.results(line, moves));
        CHECKS.dueArgument("points" + arguments, () -> academy.points(line, moves));
        CHECKS.dueArgument("isDropped" + arguments, () -> academy.isDropped(line, moves) ? 1 : 0);
        CHECKS.dueArgument("pointsOfGames" + arguments, () -> academy.pointsOfGames(line, moves));
        CHECKS.dueArgument("mean" + arguments, () -> (long) academy.mean(line, moves));
    }
}
