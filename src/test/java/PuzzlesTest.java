import java.lang.reflect.Method;

/** Promises 12 to 17: puzzles, puzzle, source, solve, offered, rating. */
public final class PuzzlesTest {
    private static final Checks CHECKS = new Checks("PuzzlesTest");

    /** Nine games that make 39 puzzles: two moves of each, made in turn twelve times. */
    private static final int[][] TURNS = {{0, 0}, {1, 1}, {3, 3}, {0, 3}, {3, 0}, {1, 0}, {0, 1}, {3, 1}, {1, 3}};
    private static final int[] MADE = {8, 5, 1, 5, 3, 3, 6, 3, 5};
    private static final int[] POSITIONS = {
        1, 89, 401, 812, 689, 828, 801, 289, 193, 369, 601, 225, 969, 851, 128, 351, 278, 701, 428, 728,
        101, 878, 951, 675, 901, 12, 102, 362, 552, 869, 19, 51, 375, 975, 25, 551, 251, 625, 419, 38};

    public static void main(String[] args) throws ReflectiveOperationException {
        puzzlesOfOneGame();
        fortyPuzzles();
        wrongPuzzles();
        solve();
        solveThrowsInOrder();
        offered();
        offeredByRating();
        rating();
        ratingFallsBehindItsGrowth();
        ratingRule();
        CHECKS.finish();
    }

    private static int playTurns(ClubAcademy academy, int one, int other) {
        return Checks.play(academy, 0, 1, 1, one, other, one, other, one, other, one, other, one, other, one, other);
    }

    private static ClubAcademy withManyPuzzles(int players) {
        ClubAcademy academy = Checks.withPlayers(players);
        for (int game = 0; game < TURNS.length; game++) {
            CHECKS.due("puzzles made by game " + game, playTurns(academy, TURNS[game][0], TURNS[game][1]), MADE[game]);
        }
        return academy;
    }

    private static void puzzlesOfOneGame() {
        ClubAcademy academy = Checks.withPlayers(2);
        CHECKS.due("puzzles() at first", academy.puzzles(), 0);
        academy.begin(0, 1);
        academy.move(0);
        academy.move(1);
        CHECKS.due("puzzles() while the game goes on", academy.puzzles(), 0);
        CHECKS.due("end", academy.end(1), 2);
        CHECKS.due("puzzles() behind the game", academy.puzzles(), 2);
        CHECKS.due("puzzle(0)", academy.puzzle(0), 1);
        CHECKS.due("puzzle(1)", academy.puzzle(1), 12);
        CHECKS.due("source(1)", academy.source(1), 0);
        // 12, the third and the sixth position of the next game, is blundered in twice.
        CHECKS.due("a position twice in a game", Checks.play(academy, 0, 1, 1, 0, 1, 1, 1, 1, 1), 3);
        CHECKS.due("puzzle(2)", academy.puzzle(2), 102);
        CHECKS.due("puzzle(4)", academy.puzzle(4), 142);
        CHECKS.due("source(2)", academy.source(2), 1);
        CHECKS.due("source(1) stays", academy.source(1), 0);
        ClubAcademy other = Checks.withPlayers(2);
        CHECKS.due("851 three times in a game", playTurns(other, 3, 3), 1);
        CHECKS.due("its puzzle", other.puzzle(0), 851);
    }

    private static void fortyPuzzles() {
        ClubAcademy academy = withManyPuzzles(2);
        CHECKS.due("puzzles() behind nine games", academy.puzzles(), 39);
        CHECKS.due("the tenth game makes the last one", playTurns(academy, 2, 0), 1);
        CHECKS.due("the eleventh makes none", playTurns(academy, 0, 2), 0);
        CHECKS.due("puzzles() behind eleven games", academy.puzzles(), 40);
        int puzzle = 0;
        for (int game = 0; game < 10; game++) {
            int made = game < 9 ? MADE[game] : 1;
            for (int i = 0; i < made; i++) {
                CHECKS.due("puzzle(" + puzzle + ")", academy.puzzle(puzzle), POSITIONS[puzzle]);
                CHECKS.due("source(" + puzzle + ")", academy.source(puzzle), game);
                puzzle++;
            }
        }
        CHECKS.dueIndex("puzzle(40)", () -> academy.puzzle(40));
        CHECKS.dueIndex("source(40)", () -> academy.source(40));
        CHECKS.due("the 40th puzzle is solved by 2", academy.solve(0, 39, 2), academy.best(38) == 2);
        CHECKS.dueState("the 40th puzzle again", () -> academy.solve(0, 39, 2) ? 1 : 0);
    }

    private static void wrongPuzzles() {
        ClubAcademy academy = Checks.withPlayers(2);
        Checks.play(academy, 0, 1, 1, 0, 1);
        int[] wrongPuzzles = {-1, 2, 39, 40, Integer.MIN_VALUE, Integer.MAX_VALUE};
        for (int wrong : wrongPuzzles) {
            CHECKS.dueIndex("puzzle(" + wrong + ")", () -> academy.puzzle(wrong));
            CHECKS.dueIndex("source(" + wrong + ")", () -> academy.source(wrong));
            CHECKS.dueIndex("solve(0, " + wrong + ", 0)", () -> academy.solve(0, wrong, 0) ? 1 : 0);
        }
    }

    private static void solve() {
        ClubAcademy academy = Checks.withPlayers(3);
        Checks.play(academy, 0, 1, 1, 0, 1);
        // Puzzle 0 is position 1 of theme 1, solved by 2; puzzle 1 is position 12 of theme 2, solved by 3.
        CHECKS.due("solve(2, 0, 2)", academy.solve(2, 0, 2), true);
        CHECKS.due("rating(2, 1) when solved", academy.rating(2, 1), 1032);
        CHECKS.due("solve(2, 1, 2)", academy.solve(2, 1, 2), false);
        CHECKS.due("rating(2, 2) when not solved", academy.rating(2, 2), 984);
        // 3 is no blunder in position 1, but not the best move either.
        CHECKS.due("solve(0, 0, 3)", academy.solve(0, 0, 3), false);
        CHECKS.due("rating(0, 1)", academy.rating(0, 1), 984);
        CHECKS.due("solve(1, 1, 3)", academy.solve(1, 1, 3), true);
        CHECKS.due("rating(1, 2)", academy.rating(1, 2), 1032);
        CHECKS.due("rating(1, 1) stays", academy.rating(1, 1), 1000);
        academy.begin(0, 1);
        CHECKS.due("solve while a game goes on", academy.solve(0, 1, 3), true);
        CHECKS.due("the game stays", academy.position(), 1);
    }

    private static void solveThrowsInOrder() {
        ClubAcademy academy = Checks.withPlayers(2);
        Checks.play(academy, 0, 1, 1, 0, 1);
        academy.solve(0, 0, 2);
        CHECKS.dueState("the solved puzzle again", () -> academy.solve(0, 0, 2) ? 1 : 0);
        CHECKS.dueState("the solved puzzle again, wrong", () -> academy.solve(0, 0, 1) ? 1 : 0);
        CHECKS.due("rating stays", academy.rating(0, 1), 1032);
        int[] wrongMoves = {-1, 4, Integer.MIN_VALUE, Integer.MAX_VALUE};
        for (int wrong : wrongMoves) {
            CHECKS.dueArgument("tried, move " + wrong, () -> academy.solve(0, 0, wrong) ? 1 : 0);
            CHECKS.dueArgument("not tried, move " + wrong, () -> academy.solve(1, 0, wrong) ? 1 : 0);
            CHECKS.dueIndex("no puzzle, move " + wrong, () -> academy.solve(0, 2, wrong) ? 1 : 0);
        }
        int[] wrongPlayers = {-1, 2, 8, Integer.MIN_VALUE, Integer.MAX_VALUE};
        for (int wrong : wrongPlayers) {
            CHECKS.dueIndex("solve(" + wrong + ", 0, 0)", () -> academy.solve(wrong, 0, 0) ? 1 : 0);
            CHECKS.dueIndex("solve(" + wrong + ", 0, 4)", () -> academy.solve(wrong, 0, 4) ? 1 : 0);
        }
        CHECKS.due("the other player still may try", academy.solve(1, 0, 2), true);
        CHECKS.due("its rating", academy.rating(1, 1), 1032);
    }

    private static void offered() {
        ClubAcademy academy = Checks.withPlayers(2);
        CHECKS.due("offered(0) without puzzles", academy.offered(0), -1);
        Checks.play(academy, 0, 1, 1, 0, 1);
        CHECKS.due("lowest theme of alike ratings", academy.offered(0), 0);
        academy.solve(0, 0, 2);
        CHECKS.due("what is not tried", academy.offered(0), 1);
        CHECKS.due("the other player's own", academy.offered(1), 0);
        academy.solve(0, 1, 0);
        CHECKS.due("all are tried", academy.offered(0), -1);
        int[] wrongPlayers = {-1, 2, 8, Integer.MIN_VALUE, Integer.MAX_VALUE};
        for (int wrong : wrongPlayers) {
            CHECKS.dueIndex("offered(" + wrong + ")", () -> academy.offered(wrong));
        }
    }

    /** Themes of the 39 puzzles from the first on: 1 4 1 2 4 3 1 4 3 4 1 0 ..; number 11 is the first of theme 0. */
    private static void offeredByRating() {
        ClubAcademy academy = withManyPuzzles(2);
        CHECKS.due("theme 0 is the lowest", academy.offered(0), 11);
        academy.solve(0, 11, 3);
        CHECKS.due("theme 1, when 0 has grown", academy.offered(0), 0);
        academy.solve(0, 0, 0);
        CHECKS.due("theme 1 has the least rating", academy.offered(0), 2);
        academy.solve(0, 7, 0);
        CHECKS.due("themes 1 and 4 have the least rating", academy.offered(0), 2);
        academy.solve(0, 1, 0);
        CHECKS.due("theme 4 has the least rating", academy.offered(0), 4);
        academy.solve(0, 4, 2);
        CHECKS.due("theme 4 is back at 1000", academy.rating(0, 4), 968 + 32);
        CHECKS.due("theme 1 has the least rating again", academy.offered(0), 2);
    }

    private static void rating() {
        ClubAcademy academy = Checks.withPlayers(2);
        for (int theme = 0; theme < 5; theme++) {
            CHECKS.due("first rating of theme " + theme, academy.rating(1, theme), 1000);
        }
        int[] wrongThemes = {-1, 5, Integer.MIN_VALUE, Integer.MAX_VALUE};
        for (int wrong : wrongThemes) {
            CHECKS.dueArgument("rating(0, " + wrong + ")", () -> academy.rating(0, wrong));
            CHECKS.dueIndex("rating(2, " + wrong + ")", () -> academy.rating(2, wrong));
        }
        int[] wrongPlayers = {-1, 2, 8, Integer.MIN_VALUE, Integer.MAX_VALUE};
        for (int wrong : wrongPlayers) {
            CHECKS.dueIndex("rating(" + wrong + ", 0)", () -> academy.rating(wrong, 0));
        }
    }

    private static void ratingFallsBehindItsGrowth() {
        ClubAcademy academy = withManyPuzzles(2);
        int[] ofThemeOne = {0, 2, 6, 10, 13, 15, 17, 20, 22, 24, 31, 35, 36};
        int[] ratings = {1032, 1064, 1095, 1126, 1156, 1185, 1214, 1242, 1270, 1297, 1324, 1350, 1375};
        for (int i = 0; i < ofThemeOne.length; i++) {
            int puzzle = ofThemeOne[i];
            CHECKS.due("puzzle " + puzzle, academy.solve(0, puzzle, academy.best(POSITIONS[puzzle])), true);
            CHECKS.due("rating behind puzzle " + puzzle, academy.rating(0, 1), ratings[i]);
            int wrongMove = (academy.best(POSITIONS[puzzle]) + 1) % 4;
            CHECKS.due("puzzle " + puzzle + ", wrong", academy.solve(1, puzzle, wrongMove), false);
            CHECKS.due("rating behind wrong puzzle " + puzzle, academy.rating(1, 1), 1000 - 16 * (i + 1));
        }
        CHECKS.due("other themes stay", academy.rating(0, 0), 1000);
    }

    /** Forty puzzles a player don't lead a rating to its bounds, so the rule itself is asked there. */
    private static void ratingRule() throws ReflectiveOperationException {
        Method rule = null;
        for (Class<?> inside : ClubAcademy.class.getDeclaredClasses()) {
            if (inside.getSimpleName().equals("Player")) {
                rule = inside.getDeclaredMethod("ratingBehindTry", int.class, boolean.class);
            }
        }
        if (rule == null) {
            throw new IllegalStateException("no rule of ratings is found");
        }
        rule.setAccessible(true);
        int[][] rows = {
            {900, 932, 884}, {999, 1031, 983}, {1000, 1032, 984}, {1049, 1081, 1033}, {1050, 1081, 1034},
            {2599, 2600, 2583}, {2600, 2600, 2584}, {2649, 2649, 2633}, {2650, 2649, 2634}, {3000, 2992, 2984},
            {100, 132, 100}, {115, 147, 100}, {116, 148, 100}, {117, 149, 101}};
        for (int[] row : rows) {
            CHECKS.due(row[0] + " when solved", (int) rule.invoke(null, row[0], true), row[1]);
            CHECKS.due(row[0] + " when not solved", (int) rule.invoke(null, row[0], false), row[2]);
        }
    }
}
