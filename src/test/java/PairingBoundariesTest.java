/** Promises 23 and 24: a test for each sentence of the document that names a boundary case. */
public final class PairingBoundariesTest {
    private static final Checks CHECKS = new Checks("PairingBoundariesTest");

    public static void main(String[] args) {
        noSuchPlayer();
        onePlayer();
        oneIsLeftOver();
        eightPlayers();
        ordersOfAlikeScores();
        lastOneUnmet();
        noneUnmet();
        noneUnmetOfThoseLeft();
        onlyEndedGamesAreMeetings();
        bothAlikeInColours();
        whiteLessOften();
        colourOfLeftOver();
        allOfSixtyGames();
        CHECKS.finish();
    }

    private static Run run(String name, int players) {
        Run run = new Run(CHECKS, name);
        run.times(players, "enter = #");
        return run;
    }

    private static void duePairs(Run run, int... opponents) {
        for (int player = 0; player < opponents.length; player++) {
            run.rows("opponent " + player + " = " + opponents[player]);
        }
    }

    /** opponent and hasWhite "if there is no such player". */
    private static void noSuchPlayer() {
        for (int players = 0; players <= 8; players++) {
            Run run = run("no such player of " + players, players);
            run.each("opponent # = IndexOutOfBoundsException; hasWhite # = IndexOutOfBoundsException",
                players, players + 1, 8, 9, -1, Integer.MIN_VALUE, Integer.MAX_VALUE);
        }
    }

    /** opponent "-1 if none", and hasWhite "if the player would have no game". */
    private static void onePlayer() {
        Run run = run("one player", 1);
        run.rows("opponent 0 = -1; hasWhite 0 = IllegalStateException; enter = 1");
        run.rows("opponent 0 = 1; hasWhite 0 = true; opponent 1 = 0; hasWhite 1 = false");
    }

    /** "One who is left over has no game": of each odd number of players the last one in the order. */
    private static void oneIsLeftOver() {
        for (int players = 1; players <= 7; players += 2) {
            Run run = run("left over of " + players, players);
            int last = players - 1;
            run.rows("opponent " + last + " = -1; hasWhite " + last + " = IllegalStateException");
            for (int player = 0; player < last; player++) {
                run.rows("opponent " + player + " = " + (player ^ 1) + "; hasWhite " + player + " = " + (player % 2 == 0));
            }
        }
        Run run = run("the one with the least score is left over", 3);
        run.play(1, 2, "", 2);
        run.play(0, 2, "", 0);
        // The scores are 0, 2, 2: 1 has met 2, so that 1 plays 0 and 2 is left over.
        duePairs(run, 1, 0, -1);
        run.play(2, 1, "", 2);
        // The scores are 0, 2, 4: 2 has met both, so the next one is 1.
        duePairs(run, -1, 2, 1);
        run.rows("hasWhite 0 = IllegalStateException");
    }

    /** As many players as there may be. */
    private static void eightPlayers() {
        Run run = run("eight players", 8);
        duePairs(run, 1, 0, 3, 2, 5, 4, 7, 6);
        run.play(7, 6, "", 2);
        run.play(5, 4, "", 2);
        run.play(3, 2, "", 2);
        run.play(1, 0, "", 2);
        duePairs(run, 2, 3, 0, 1, 6, 7, 4, 5);
        run.each("hasWhite # = true", 0, 1, 4, 5);
        run.each("hasWhite # = false", 2, 3, 6, 7);
        run.rows("enter = IllegalStateException");
        duePairs(run, 2, 3, 0, 1, 6, 7, 4, 5);
    }

    /** "ordered by falling scores, then numbers": alike ones, and one point between. */
    private static void ordersOfAlikeScores() {
        Run run = run("orders of alike scores", 5);
        run.play(4, 0, "", 1);
        // The order is 0, 4, 1, 2, 3.
        duePairs(run, 1, 0, 4, -1, 2);
        run.play(3, 1, "", 2);
        // The order is 3, 0, 4, 1, 2.
        duePairs(run, 3, 4, -1, 0, 1);
    }

    /** "the next one in this order with whom that player has not played": the very last one. */
    private static void lastOneUnmet() {
        Run run = run("the last one is unmet", 4);
        run.play(0, 1, "", 1);
        run.play(0, 2, "", 1);
        // The scores are 2, 1, 1, 0.
        duePairs(run, 3, 2, 1, 0);
    }

    /** "or, if there is none, with the next one". */
    private static void noneUnmet() {
        Run run = run("none is unmet", 4);
        run.play(0, 1, "", 1);
        run.play(2, 0, "", 1);
        run.play(0, 3, "", 1);
        // The order is 0 (3), 1, 2, 3; 0 has met all.
        duePairs(run, 1, 0, 3, 2);
        Run two = run("both have met", 2);
        two.times(3, "begin 1 0; end 0; opponent 0 = 1; opponent 1 = 0");
    }

    /** The same, when one is unmet but paired already. */
    private static void noneUnmetOfThoseLeft() {
        Run run = run("none is unmet of those left", 4);
        run.play(2, 3, "", 1);
        run.play(0, 3, "", 2);
        run.play(0, 1, "", 2);
        // The scores are 4, 0, 1, 1: 0 plays 2; 3 has not met 1.
        duePairs(run, 2, 3, 0, 1);
        run.play(1, 3, "", 1);
        // The scores are 4, 1, 1, 2: 0 plays 2; 3 has met all but is left with 1.
        duePairs(run, 2, 3, 0, 1);
    }

    /** "a game that has ended": one that goes on is no meeting and gives no colour. */
    private static void onlyEndedGamesAreMeetings() {
        Run run = run("only ended games are meetings", 4);
        run.rows("begin 0 1");
        duePairs(run, 1, 0, 3, 2);
        run.rows("hasWhite 0 = true; move 0; end 3; opponent 0 = 1; hasWhite 0 = true; end 1");
        duePairs(run, 2, 3, 0, 1);
        run.rows("hasWhite 0 = false; hasWhite 1 = true; hasWhite 2 = true; hasWhite 3 = false");
    }

    /** "of both alike the lower number": with no games, with one of each colour, with one white each. */
    private static void bothAlikeInColours() {
        Run run = run("both alike", 2);
        run.rows("hasWhite 0 = true; hasWhite 1 = false");
        run.play(1, 0, "", 1);
        run.play(0, 1, "", 1);
        run.rows("hasWhite 0 = true; hasWhite 1 = false");
        Run three = run("both alike, with white once each", 3);
        three.play(1, 2, "", 1);
        three.play(0, 2, "", 1);
        three.rows("opponent 2 = 0; hasWhite 2 = true; hasWhite 0 = false");
        three.play(2, 1, "", 0);
        three.play(2, 1, "", 2);
        // The balances are 1, -1 and 0, the scores 1, 3 and 4.
        three.rows("opponent 2 = 1; hasWhite 2 = false; hasWhite 1 = true; opponent 0 = -1");
        Run order = run("the lower number, though behind in the order", 2);
        order.play(1, 0, "", 2);
        order.play(0, 1, "", 0);
        order.rows("score 1 = 4; hasWhite 0 = true; hasWhite 1 = false");
    }

    /** "had white less often, compared with black": by one game, below nought and above it. */
    private static void whiteLessOften() {
        Run run = run("white less often", 2);
        run.play(0, 1, "", 1);
        run.rows("hasWhite 0 = false; hasWhite 1 = true");
        run.play(1, 0, "", 1);
        run.play(1, 0, "", 1);
        run.rows("hasWhite 0 = true; hasWhite 1 = false");
        Run negative = run("balances below nought", 4);
        negative.play(2, 0, "", 0);
        negative.play(3, 0, "", 0);
        negative.play(3, 1, "", 0);
        // The balances are -2, -1, 1 and 2, the scores 4, 2, 0 and 0.
        negative.rows("opponent 0 = 1; hasWhite 0 = true; hasWhite 1 = false; hasWhite 2 = true; hasWhite 3 = false");
    }

    /** hasWhite of one who is left over throws, however the colours stand. */
    private static void colourOfLeftOver() {
        Run run = run("the colour of one who is left over", 3);
        run.play(0, 2, "", 2);
        run.play(0, 2, "", 2);
        run.rows("opponent 0 = 1; opponent 2 = -1; hasWhite 2 = IllegalStateException; enter = 3; hasWhite 2 = true; hasWhite 3 = false");
    }

    /** As many games as there may be: each two of 8 play twice, and 4 games more. */
    private static void allOfSixtyGames() {
        Run run = run("60 games of 8 players", 8);
        for (int white = 0; white < 8; white++) {
            for (int black = 0; black < 8; black++) {
                if (white != black) {
                    run.play(white, black, "", 1);
                }
            }
        }
        run.rows("games = 56");
        duePairs(run, 1, 0, 3, 2, 5, 4, 7, 6);
        run.each("hasWhite # = true", 0, 2, 4, 6);
        run.play(7, 0, "", 2);
        run.play(7, 1, "", 2);
        run.play(6, 0, "", 2);
        run.play(6, 7, "", 1);
        // The order is 7 (19), 6 (17), then 0 to 5 with 14 each.
        run.rows("games = 60; score 7 = 19; score 6 = 17; score 0 = 14; score 5 = 14");
        duePairs(run, 1, 0, 3, 2, 5, 4, 7, 6);
        // The balances are -2, -1, 0, 0, 0, 0, 2 and 1.
        run.rows("hasWhite 0 = true; hasWhite 1 = false; hasWhite 6 = false; hasWhite 7 = true; hasWhite 4 = true");
        run.rows("begin 0 1 = IllegalStateException");
        duePairs(run, 1, 0, 3, 2, 5, 4, 7, 6);
    }
}
