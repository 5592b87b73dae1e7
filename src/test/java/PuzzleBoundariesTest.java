/** Promises 12 to 17: a test for each sentence of the document that names a boundary case. */
public final class PuzzleBoundariesTest {
    private static final Checks CHECKS = new Checks("PuzzleBoundariesTest");
    private static final int[] WRONG_MOVES = {-1, 4, 5, Integer.MIN_VALUE, Integer.MAX_VALUE};
    private static final int[] FAR = {-1, Integer.MIN_VALUE, Integer.MAX_VALUE};

    /** Nine games make 39 puzzles; the tenth blunders in three new positions, and one of them has room. */
    private static final String[] GAMES = {
        "000000000000", "111111111111", "333333333333", "030303030303", "303030303030",
        "101010101010", "010101010101", "313131313131", "131313131313"};
    private static final int[] MADE = {8, 5, 1, 5, 3, 3, 6, 3, 5};
    private static final String TENTH_GAME = "202020202020";
    /** Of the 39 puzzles those of theme 1, and the moves that solve them. */
    private static final int[] OF_THEME_ONE = {0, 2, 6, 10, 13, 15, 17, 20, 22, 24, 31, 35, 36};
    private static final String SOLUTIONS = "2213221032301";

    public static void main(String[] args) {
        noPuzzlesAtFirst();
        puzzlesAreForty();
        onePuzzleForAPosition();
        puzzleNumbers();
        firstAndLastSource();
        movesOfATryAreFour();
        onceEach();
        eightPlayersTryFortyPuzzles();
        themesAreFive();
        growthIsLessenedAboveThousand();
        growthIsWholeUpToThousand();
        lossIsNeverLessened();
        noneIsOffered();
        lowestIsOffered();
        theLastOneIsOffered();
        CHECKS.finish();
    }

    private static Run run(String name, int players) {
        Run run = new Run(CHECKS, name);
        run.times(players, "enter = #");
        return run;
    }

    private static Run withManyPuzzles(String name, int players) {
        Run run = run(name, players);
        for (int game = 0; game < GAMES.length; game++) {
            CHECKS.due(name + ": made by game " + game, run.play(0, 1, GAMES[game], 1), "" + MADE[game]);
        }
        return run;
    }

    /** A puzzle for position 1 of theme 1, which 2 solves, and one for 12 of theme 2, which 3 solves. */
    private static Run withTwoPuzzles(String name, int players) {
        Run run = run(name, players);
        CHECKS.due(name + ": puzzles made", run.play(0, 1, "01", 1), "2");
        return run;
    }

    /** puzzles, puzzle and source, while there is nothing yet. */
    private static void noPuzzlesAtFirst() {
        Run run = run("no puzzles at first", 2);
        run.rows("puzzles = 0; puzzle 0 = IndexOutOfBoundsException; source 0 = IndexOutOfBoundsException");
        run.rows("solve 0 0 2 = IndexOutOfBoundsException; offered 0 = -1");
        run.rows("begin 0 1; move 0 = true; puzzles = 0; puzzle 0 = IndexOutOfBoundsException");
        run.rows("solve 0 0 2 = IndexOutOfBoundsException; offered 0 = -1; end 1 = 1; puzzles = 1; puzzle 0 = 1");
        Run best = run("no puzzles without blunders", 2);
        CHECKS.due("made by 2, 3", best.play(0, 1, "23", 1), "0");
        best.rows("puzzles = 0; puzzle 0 = IndexOutOfBoundsException; offered 1 = -1");
    }

    /** "or there are 40". */
    private static void puzzlesAreForty() {
        Run run = withManyPuzzles("puzzles are at most 40", 2);
        run.rows("puzzles = 39; puzzle 38 = 419; puzzle 39 = IndexOutOfBoundsException");
        CHECKS.due("made of the three", run.play(0, 1, TENTH_GAME, 1), "1");
        run.rows("puzzles = 40; puzzle 38 = 419; source 38 = 8; puzzle 39 = 38; source 39 = 9");
        run.rows("puzzle 40 = IndexOutOfBoundsException; source 40 = IndexOutOfBoundsException");
        CHECKS.due("made of new ones then", run.play(0, 1, TENTH_GAME, 1), "0");
        CHECKS.due("made of other ones then", run.play(1, 0, "020202020202", 1), "0");
        run.rows("puzzles = 40; puzzle 39 = 38; source 39 = 9; games = 12");
        Run other = run("the tenth game alone", 2);
        CHECKS.due("made by the tenth game alone", other.play(0, 1, TENTH_GAME, 1), "4");
        other.rows("puzzles = 4; puzzle 0 = 38");
    }

    /** "unless there is one for that position": in the same game, in a later one, of the other player. */
    private static void onePuzzleForAPosition() {
        Run run = run("one puzzle for a position", 3);
        CHECKS.due("851 three times in a game", run.play(0, 1, "333333333333", 1), "1");
        run.rows("puzzle 0 = 851; puzzles = 1");
        CHECKS.due("the same game again", run.play(1, 0, "333333333333", 1), "0");
        CHECKS.due("the same game of others", run.play(2, 1, "333333333333", 1), "0");
        run.rows("puzzles = 1; source 0 = 0");
        Run first = run("one puzzle for the first position", 2);
        CHECKS.due("a blunder in 1", first.play(0, 1, "0", 1), "1");
        CHECKS.due("another blunder in 1", first.play(0, 1, "1", 1), "0");
        CHECKS.due("a known one and a new one", first.play(0, 1, "01", 1), "1");
        first.rows("puzzles = 2; puzzle 0 = 1; puzzle 1 = 12; source 0 = 0; source 1 = 2");
    }

    /** puzzle, source and solve "if there is no such puzzle": the numbers round what is there. */
    private static void puzzleNumbers() {
        Run run = withTwoPuzzles("numbers of puzzles", 2);
        run.rows("puzzle 0 = 1; puzzle 1 = 12; source 0 = 0; source 1 = 0");
        for (String call : new String[] {"puzzle #", "source #", "solve 0 # 0", "solve 1 # 3"}) {
            run.each(call + " = IndexOutOfBoundsException", 2, 3, 39, 40, 41);
            run.each(call + " = IndexOutOfBoundsException", FAR);
        }
        run.rows("solve 0 0 2 = true; solve 0 1 3 = true");
    }

    /** "the game from which a puzzle comes": game 0, and game 59, the last one. */
    private static void firstAndLastSource() {
        Run run = run("the last source", 2);
        run.rows("begin 0 1; move 0; end 2 = 1");
        run.times(58, "begin 0 1; end 1 = 0");
        run.rows("begin 0 1 = 59; move 0; move 1; end 2 = 1; source 0 = 0; source 1 = 59; puzzle 1 = 12");
    }

    /** solve's move is "0 to 3". */
    private static void movesOfATryAreFour() {
        Run run = withManyPuzzles("moves of a try are 0 to 3", 2);
        run.each("solve 0 10 # = IllegalArgumentException", WRONG_MOVES);
        run.rows("puzzle 10 = 601; best 601 = 3; solve 0 10 3 = true; solve 1 10 0 = false");
        run.each("solve 0 20 # = IllegalArgumentException", WRONG_MOVES);
        run.rows("puzzle 20 = 101; best 101 = 0; solve 0 20 0 = true; solve 1 20 3 = false");
    }

    /** "once each", and solve "if the player has tried it", solved or not. */
    private static void onceEach() {
        Run run = withTwoPuzzles("once each", 3);
        run.rows("solve 0 0 2 = true");
        run.each("solve 0 0 # = IllegalStateException; rating 0 1 = 1032", 0, 1, 2, 3);
        run.rows("solve 1 0 0 = false");
        run.each("solve 1 0 # = IllegalStateException; rating 1 1 = 984", 0, 1, 2, 3);
        run.rows("solve 0 1 3 = true; solve 2 0 2 = true; solve 2 1 0 = false; solve 2 1 3 = IllegalStateException");
        run.rows("begin 0 1; solve 0 0 2 = IllegalStateException; solve 1 1 3 = true; end 1");
    }

    /** As many tries as there may be: 8 players, 40 puzzles. */
    private static void eightPlayersTryFortyPuzzles() {
        Run run = withManyPuzzles("8 players try 40 puzzles", 8);
        run.play(0, 1, TENTH_GAME, 1);
        run.times(40, "solve 0 # 0; solve 1 # 1; solve 2 # 2; solve 3 # 3; solve 4 # 0; solve 5 # 1; solve 6 # 2; solve 7 # 3");
        run.each("offered # = -1", 0, 1, 2, 3, 4, 5, 6, 7);
        run.rows("solve 0 0 0 = IllegalStateException; solve 7 39 3 = IllegalStateException; solve 7 0 2 = IllegalStateException");
        run.rows("solve 0 39 2 = IllegalStateException; solve 0 40 0 = IndexOutOfBoundsException");
        // Of theme 3 are puzzles 5, 8, 14, 16, 18, 19, 21 and 39, which 2, 2, 1, 2, 2, 1, 2 and 2 solve.
        run.rows("rating 4 3 = 872; rating 1 3 = 968; rating 2 3 = 1156; rating 7 3 = 872");
        run.rows("rating 0 1 = 888; rating 5 1 = 936; rating 6 1 = 1031; rating 3 1 = 936");
    }

    /** rating's theme is "0 to 4"; "The theme of a position is its number modulo 5, 0 to 4". */
    private static void themesAreFive() {
        Run run = withManyPuzzles("themes are 0 to 4", 2);
        for (int player = 0; player < 2; player++) {
            run.each("rating " + player + " # = 1000", 0, 1, 2, 3, 4);
            run.each("rating " + player + " # = IllegalArgumentException", 5, 6);
            run.each("rating " + player + " # = IllegalArgumentException", FAR);
        }
        run.each("rating # 0 = IndexOutOfBoundsException; rating # 5 = IndexOutOfBoundsException", 2, 7, 8);
        run.each("rating # 4 = IndexOutOfBoundsException; rating # -1 = IndexOutOfBoundsException", FAR);
        run.rows("puzzle 11 = 225; solve 0 11 0 = false; rating 0 0 = 984; rating 0 1 = 1000; rating 0 4 = 1000");
        run.rows("puzzle 1 = 89; solve 0 1 0 = false; rating 0 4 = 984; rating 0 3 = 1000; rating 0 0 = 984");
    }

    /** Tries puzzles of theme 1 by player 0: "+" solves, "-" doesn't; answers how many were tried. */
    private static void tryThemeOne(Run run, String tries) {
        for (int i = 0; i < tries.length(); i++) {
            int solution = SOLUTIONS.charAt(i) - '0';
            boolean well = tries.charAt(i) == '+';
            run.rows("solve 0 " + OF_THEME_ONE[i] + " " + (well ? solution : 3 - solution) + " = " + well);
        }
    }

    private static void dueRating(String tries, int rating) {
        Run run = withManyPuzzles("rating behind " + tries, 2);
        tryThemeOne(run, tries);
        run.rows("rating 0 1 = " + rating);
        run.each("rating 0 # = 1000; rating 1 # = 1000", 0, 2, 3, 4);
        run.rows("rating 1 1 = 1000");
    }

    /** "less a 50th part, rounded down, of how much the rating is above 1000": on both sides of a 50. */
    private static void growthIsLessenedAboveThousand() {
        dueRating("+", 1032);
        dueRating("++", 1064);
        dueRating("+++", 1095);
        dueRating("++-", 1048);
        dueRating("++-+", 1080);
        dueRating("+++-++++", 1199);
        dueRating("+++-+++++", 1228);
        dueRating("-+++++++", 1200);
        dueRating("-++++++++", 1228);
        dueRating("++++++--+--", 1150);
        dueRating("++++++--+--+", 1179);
        dueRating("+++++++++++++", 1375);
    }

    /** "if it is" above 1000: at 1000 and below it grows by 32. */
    private static void growthIsWholeUpToThousand() {
        dueRating("-+", 1016);
        dueRating("--+", 1000);
        dueRating("--++", 1032);
        dueRating("-----", 920);
        dueRating("-----+", 952);
        dueRating("+++------", 999);
        dueRating("+++------+", 1031);
    }

    /** "it falls by 16 otherwise", above 1000 as well as below. */
    private static void lossIsNeverLessened() {
        dueRating("-", 984);
        dueRating("++++++++++++-", 1334);
        dueRating("-------------", 792);
    }

    /** "-1 if there is none": no puzzles, or all of them tried. */
    private static void noneIsOffered() {
        Run none = run("none is offered, no puzzles", 8);
        none.each("offered # = -1", 0, 1, 2, 3, 4, 5, 6, 7);
        none.each("offered # = IndexOutOfBoundsException", 8, -1, Integer.MIN_VALUE, Integer.MAX_VALUE);
        Run run = withTwoPuzzles("none is offered, all tried", 3);
        run.rows("offered 0 = 0; solve 0 0 0; offered 0 = 1; solve 0 1 0; offered 0 = -1; offered 1 = 0; offered 2 = 0");
        run.play(0, 1, "011", 1);
        run.rows("puzzles = 3; puzzle 2 = 102; offered 0 = 2; solve 0 2 0; offered 0 = -1; enter = 3; offered 3 = 0");
    }

    /** "the one whose theme has the least rating, of several the lowest theme, and of its puzzles the lowest". */
    private static void lowestIsOffered() {
        Run run = withTwoPuzzles("the lowest is offered", 2);
        run.rows("offered 0 = 0; solve 0 1 0 = false; rating 0 2 = 984; offered 0 = 0");
        run.rows("offered 1 = 0; solve 1 0 2 = true; offered 1 = 1");
        Run many = withManyPuzzles("the lowest of many is offered", 2);
        many.rows("offered 0 = 11; solve 0 11 3 = true; rating 0 0 = 1032; offered 0 = 0; solve 0 0 2 = true; offered 0 = 3");
        many.rows("puzzle 18 = 428; solve 0 18 3 = false; rating 0 3 = 984; offered 0 = 5");
        many.rows("puzzle 9 = 369; solve 0 9 0 = false; rating 0 4 = 984; offered 0 = 5; solve 0 12 0 = false; offered 0 = 1");
        many.rows("offered 1 = 11; solve 1 34 2 = false; puzzle 34 = 25; rating 1 0 = 984; offered 1 = 11");
    }

    /** A player who has tried all but one is offered that one: the first, or the 40th. */
    private static void theLastOneIsOffered() {
        Run run = withManyPuzzles("the last one is offered", 2);
        run.play(0, 1, TENTH_GAME, 1);
        run.times(39, "solve 0 # 0");
        run.rows("offered 0 = 39; solve 0 39 0; offered 0 = -1");
        for (int puzzle = 39; puzzle > 0; puzzle--) {
            run.rows("solve 1 " + puzzle + " 0");
        }
        run.rows("offered 1 = 0; solve 1 0 0; offered 1 = -1");
    }
}
