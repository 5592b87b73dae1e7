/** Promises 5 to 24: sentences that only a run of many calls of unlike kinds can break. */
public final class LongRunsTest {
    private static final Checks CHECKS = new Checks("LongRunsTest");

    public static void main(String[] args) {
        playersEnterAtAnyTime();
        laterPlayersAreNew();
        laterPlayersHaveMetNobody();
        puzzlesAreTriedAtAnyTime();
        blundersAreToldAlways();
        droppedLinesArePlayedOn();
        lateDrops();
        lastGameDrops();
        balancesGrowOn();
        pairsAreThoseOfNow();
        clubEvening();
        CHECKS.finish();
    }

    private static Run run(String name, int players) {
        Run run = new Run(CHECKS, name);
        run.times(players, "enter = #");
        return run;
    }

    private static void playAll(Run run, int times, String moves, int result) {
        for (int i = 0; i < times; i++) {
            run.play(0, 1, moves, result);
        }
    }

    // ---- players, puzzles and games are independent of one another

    /** enter throws only "if there are 8": a game that goes on, puzzles and 60 games rule out nothing. */
    private static void playersEnterAtAnyTime() {
        Run run = run("players enter at any time", 2);
        run.rows("begin 0 1; move 0 = true; enter = 2; position = 12; score 2 = 0; begin 2 0 = IllegalStateException");
        run.rows("move 1 = true; enter = 3; position = 102; end 2 = 2; score 0 = 2; score 2 = 0; begin 3 2 = 1; end 0 = 0");
        run.rows("score 2 = 2; score 3 = 0");
        run.times(58, "begin 0 1; end 1 = 0");
        run.rows("begin 0 1 = IllegalStateException; enter = 4; score 4 = 0; rating 4 1 = 1000; offered 4 = 0; enter = 5; enter = 6; enter = 7; enter = IllegalStateException");
    }

    /** "Each has a rating for each theme, 1000 at first, ... a score, and a count of games with each colour, 0 at first". */
    private static void laterPlayersAreNew() {
        Run run = run("later players are new", 2);
        playAll(run, 2, "01", 2);
        run.play(1, 0, "01", 0);
        run.rows("solve 0 0 2 = true; solve 1 0 2 = true; solve 0 1 0 = false; score 0 = 6; enter = 2; score 2 = 0; games = 3");
        run.each("rating 2 # = 1000", 0, 1, 2, 3, 4);
        run.rows("offered 2 = 0; solve 2 0 2 = true; offered 2 = 1; solve 2 1 3 = true; rating 2 1 = 1032; rating 2 2 = 1032");
        // The balance of 0 is 1, that of 2 is 0.
        run.rows("opponent 0 = 2; hasWhite 0 = false; hasWhite 2 = true");
    }

    /** "with whom that player has not played": the new player leads, and has met 0 alone. */
    private static void laterPlayersHaveMetNobody() {
        Run run = run("later players have met nobody", 2);
        run.play(0, 1, "", 1);
        run.rows("enter = 2");
        run.play(2, 0, "", 2);
        // The scores are 1, 1 and 2.
        run.rows("opponent 2 = 1; opponent 1 = 2; opponent 0 = -1");
        run.play(0, 1, "", 2);
        // The scores are 3, 1 and 2; 0 has met both.
        run.rows("opponent 0 = 2; opponent 1 = -1");
    }

    /** solve throws only if there is none, the move is none, or it was tried: no game rules it out. */
    private static void puzzlesAreTriedAtAnyTime() {
        Run run = run("puzzles are tried at any time", 3);
        run.play(0, 1, "01", 1);
        run.rows("begin 0 1; move 0; solve 0 0 2 = true; solve 2 1 3 = true; position = 12; move 1; end 1 = 0");
        run.times(58, "begin 0 1; end 1 = 0");
        run.rows("begin 0 1 = IllegalStateException; solve 1 1 3 = true; solve 0 1 0 = false; solve 2 0 2 = true; offered 1 = 0");
        Run last = run("puzzles of the last game", 2);
        last.times(59, "begin 0 1; end 1 = 0");
        last.rows("offered 0 = -1; begin 1 0; move 1 = true; end 1 = 1; source 0 = 59; offered 0 = 0; offered 1 = 0; solve 1 0 2 = true");
    }

    /** "A move is a blunder" by its worth alone: in dropped lines, in known positions, behind 40 puzzles. */
    private static void blundersAreToldAlways() {
        Run run = run("blunders are told always", 2);
        run.rows("begin 0 1; move 0 = true; end 1 = 1; begin 0 1; move 0 = true; end 1 = 0");
        for (String turn : new String[] {"00", "11", "33", "03", "30", "10", "01", "31", "13", "20"}) {
            run.play(0, 1, turn.repeat(6), 1);
        }
        run.rows("puzzles = 40; begin 0 1; move 0 = true; move 1 = true; end 1 = 0; begin 1 0; move 0 = true; end 1 = 0");
        run.rows("begin 0 1; move 0; move 2; position = 115; best 115 = 0; move 3 = true; end 1 = 0; puzzles = 40");
    }

    // ---- the book over many games

    /** A dropped line may be played: its games make puzzles, give scores and count as games. */
    private static void droppedLinesArePlayedOn() {
        Run run = run("dropped lines are played on", 2);
        playAll(run, 3, "0", 0);
        run.rows("isDropped 0 1 = true; puzzles = 1; begin 0 1 = 3; move 0 = true; move 1 = true; end 2 = 1");
        run.rows("puzzle 1 = 12; source 1 = 3; score 0 = 2; score 1 = 6; games = 4; pointsOfGames 0 1 = 2; pointsOfGames 4 2 = 2");
        run.rows("results 0 1 = 3; results 4 2 = 0; isDropped 4 2 = true");
    }

    /** "at least 3 results" names no greatest number: 20 points of 60 for 30 games are a third, of 62 too little. */
    private static void lateDrops() {
        Run white = run("white's line is dropped by the 31st game", 2);
        playAll(white, 10, "0", 2);
        playAll(white, 20, "0", 0);
        white.rows("results 0 1 = 30; points 0 1 = 20; isDropped 0 1 = false");
        playAll(white, 1, "0", 0);
        white.rows("results 0 1 = 31; points 0 1 = 20; isDropped 0 1 = true");
        Run black = run("black's line is dropped by the 31st game", 2);
        playAll(black, 20, "01", 1);
        playAll(black, 10, "01", 2);
        black.rows("results 4 2 = 30; points 4 2 = 40; isDropped 4 2 = false");
        playAll(black, 1, "01", 2);
        black.rows("results 4 2 = 31; points 4 2 = 42; isDropped 4 2 = true; isDropped 0 1 = false");
    }

    /** 40 points of 120 for all 60 games are a third; 39 of 120 are too little, and 39 of 118 are so a game ahead. */
    private static void lastGameDrops() {
        Run stays = run("a third of 60 games", 2);
        playAll(stays, 20, "2", 2);
        playAll(stays, 40, "2", 0);
        stays.rows("games = 60; results 2 1 = 60; points 2 1 = 40; isDropped 2 1 = false");
        Run dropped = run("a draw by the last game", 2);
        playAll(dropped, 19, "2", 2);
        playAll(dropped, 1, "2", 1);
        playAll(dropped, 38, "2", 0);
        dropped.rows("games = 58; points 2 1 = 39; isDropped 2 1 = false");
        playAll(dropped, 1, "2", 0);
        dropped.rows("games = 59; results 2 1 = 59; isDropped 2 1 = true");
        playAll(dropped, 1, "2", 2);
        dropped.rows("games = 60; results 2 1 = 59; points 2 1 = 39; pointsOfGames 2 1 = 41; isDropped 2 1 = true");
        // Two losses and a draw are 1 point of 6.
        Run last = run("dropped by the 60th game", 2);
        playAll(last, 57, "", 1);
        playAll(last, 2, "1", 0);
        last.rows("games = 59; results 1 1 = 2; isDropped 1 1 = false");
        playAll(last, 1, "1", 1);
        last.rows("games = 60; results 1 1 = 3; points 1 1 = 1; isDropped 1 1 = true");
    }

    // ---- pairing over many games

    /** "the count of white less that of black": of many games, without a bound, whatever colour was last. */
    private static void balancesGrowOn() {
        Run far = run("balances beyond 3", 4);
        for (int i = 0; i < 5; i++) {
            far.play(0, 2, "", 1);
        }
        for (int i = 0; i < 4; i++) {
            far.play(1, 3, "", 1);
        }
        // The balances are 5, 4, -5 and -4, the scores 5, 4, 5 and 4.
        far.rows("opponent 0 = 1; hasWhite 0 = false; hasWhite 1 = true; opponent 2 = 3; hasWhite 2 = true");
        Run many = run("balances of 41 games", 2);
        playAll(many, 21, "", 1);
        many.rows("hasWhite 0 = false; hasWhite 1 = true");
        for (int i = 0; i < 20; i++) {
            many.play(1, 0, "", 1);
        }
        many.rows("hasWhite 0 = false; hasWhite 1 = true");
        many.play(1, 0, "", 1);
        many.rows("hasWhite 0 = true; hasWhite 1 = false");
        many.play(1, 0, "", 1);
        many.rows("hasWhite 0 = true; hasWhite 1 = false");
    }

    /** "would be paired now": nothing stays of what was answered ahead of a game. */
    private static void pairsAreThoseOfNow() {
        Run run = run("pairs are those of now", 4);
        run.each("hasWhite # = true", 0, 2);
        run.each("hasWhite # = false", 1, 3);
        run.play(1, 0, "", 1);
        // 0 plays 2 and 1 plays 3; the balances are -1, 1, 0 and 0.
        run.rows("hasWhite 3 = true; hasWhite 2 = false; hasWhite 1 = false; hasWhite 0 = true");
        run.rows("opponent 3 = 1; opponent 2 = 0; opponent 1 = 3; opponent 0 = 2");
        run.play(2, 0, "", 2);
        // The scores are 1, 1, 2 and 0, the balances -2, 1, 1 and 0: 2 plays 1, and 0 plays 3.
        run.rows("hasWhite 0 = true; hasWhite 1 = true; hasWhite 2 = false; hasWhite 3 = false; opponent 3 = 0; opponent 1 = 2");
        run.rows("enter = 4; opponent 4 = -1; opponent 3 = 0; hasWhite 4 = IllegalStateException");
    }

    // ---- all of it

    /** Three rounds of five players, reckoned by hand: scores, pairs, puzzles, ratings and the book side by side. */
    private static void clubEvening() {
        Run run = run("a club evening", 5);
        run.rows("opponent 0 = 1; opponent 2 = 3; opponent 4 = -1; hasWhite 0 = true; hasWhite 2 = true");
        // The first round: 1, 12, 89 and 1, 38, 271 are the positions.
        run.rows("begin 0 1 = 0; move 0 = true; position = 12; move 0 = false; position = 89; end 2 = 1");
        run.rows("begin 2 3 = 1; move 2 = false; position = 38; move 0 = true; position = 271; end 1 = 1");
        run.rows("puzzle 0 = 1; source 0 = 0; puzzle 1 = 38; source 1 = 1; puzzles = 2; games = 2");
        run.rows("score 0 = 2; score 1 = 0; score 2 = 1; score 3 = 1; score 4 = 0");
        run.rows("results 0 1 = 1; points 0 1 = 2; results 2 1 = 1; points 2 1 = 1; mean 0 2 = 2.0; mean 2 2 = 1.0");
        // The order is 0, 2, 3, 1, 4: 0 plays 2, 3 plays 1.
        run.rows("opponent 0 = 2; opponent 3 = 1; opponent 4 = -1; hasWhite 2 = false; hasWhite 0 = true; hasWhite 1 = true");
        // Both puzzles are for themes that are rated alike, 1 and 3.
        run.rows("offered 4 = 0; solve 4 0 0 = false; rating 4 1 = 984; offered 4 = 1; solve 4 1 3 = false; rating 4 3 = 984");
        run.rows("offered 4 = -1; offered 1 = 0; solve 1 1 2 = true; rating 1 3 = 1032");
        // The second round.
        run.rows("begin 0 2 = 2; move 0 = true; end 0 = 0; begin 1 3 = 3; move 0 = true; move 1 = true; end 0 = 1");
        run.rows("puzzle 2 = 12; source 2 = 3; score 0 = 2; score 2 = 3; score 1 = 0; score 3 = 3");
        run.rows("results 0 1 = 3; points 0 1 = 2; isDropped 0 1 = false; mean 0 1 = 0.6666667; pointsOfGames 4 2 = 0");
        // The order is 2, 3, 0, 1, 4: 2 has met 3 and 0, so it plays 1; 3 has met 1, and plays 0.
        run.rows("opponent 2 = 1; opponent 1 = 2; opponent 3 = 0; opponent 0 = 3; opponent 4 = -1");
        // The balances are 2, 0, 0, -2 and 0.
        run.rows("hasWhite 1 = true; hasWhite 2 = false; hasWhite 3 = true; hasWhite 0 = false");
        // The third round: a loss more, and the line of move 0 has 2 points of 8.
        run.rows("begin 1 2 = 4; move 0; position = 12; end 0 = 0; isDropped 0 1 = true; isDropped 4 2 = true; points 0 1 = 2");
        run.rows("begin 3 0 = 5; move 0; move 3; position = 128; end 2 = 0; results 0 1 = 4; points 0 1 = 2; results 12 2 = 0");
        run.rows("pointsOfGames 0 1 = 4; pointsOfGames 12 2 = 2; games = 6; position = -1");
        run.rows("score 0 = 2; score 1 = 0; score 2 = 5; score 3 = 5; score 4 = 0");
        // The order is 2, 3, 0, 1, 4: 2 has met 3, 0 and 1, so it plays 4; 3 has met 0 and 1, so it plays 0.
        run.rows("opponent 2 = 4; opponent 3 = 0; opponent 1 = -1; hasWhite 1 = IllegalStateException; hasWhite 4 = false");
    }
}
