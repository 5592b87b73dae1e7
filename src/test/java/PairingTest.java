/** Promises 23 and 24: opponent, hasWhite. */
public final class PairingTest {
    private static final Checks CHECKS = new Checks("PairingTest");

    public static void main(String[] args) {
        byNumbers();
        byScores();
        unmetAhead();
        allMet();
        colours();
        gameThatGoesOn();
        wrongPlayers();
        CHECKS.finish();
    }

    private static void duePairs(String when, ClubAcademy academy, int... opponents) {
        for (int player = 0; player < opponents.length; player++) {
            CHECKS.due(when + ": opponent(" + player + ")", academy.opponent(player), opponents[player]);
        }
    }

    private static void byNumbers() {
        duePairs("one player", Checks.withPlayers(1), -1);
        duePairs("two players", Checks.withPlayers(2), 1, 0);
        duePairs("three players", Checks.withPlayers(3), 1, 0, -1);
        duePairs("seven players", Checks.withPlayers(7), 1, 0, 3, 2, 5, 4, -1);
        duePairs("eight players", Checks.withPlayers(8), 1, 0, 3, 2, 5, 4, 7, 6);
    }

    private static void byScores() {
        ClubAcademy academy = Checks.withPlayers(4);
        Checks.play(academy, 0, 1, 0);
        Checks.play(academy, 2, 3, 0);
        // 1 and 3 have two points each, 0 and 2 none.
        duePairs("by scores", academy, 2, 3, 0, 1);
        Checks.play(academy, 0, 2, 1);
        Checks.play(academy, 0, 2, 2);
        // 0 and 1: 3 and 2 points; 2: 1; 3: 2. The order is 0, 1, 3, 2, and 0 has met 1 and 2.
        duePairs("by scores, then numbers", academy, 3, 2, 1, 0);
    }

    private static void unmetAhead() {
        ClubAcademy academy = Checks.withPlayers(5);
        Checks.play(academy, 0, 1, 1);
        // 0 and 1 have a point each; 0 is paired with 2, and 1 with 3, so that 4 is left over.
        duePairs("met ones are passed by", academy, 2, 3, 0, 1, -1);
        Checks.play(academy, 2, 1, 0);
        // The order is 1 (3 points), 0 (1), 2, 3, 4; 1 has met 0 and 2.
        duePairs("two met ones are passed by", academy, 2, 3, 0, 1, -1);
    }

    private static void allMet() {
        ClubAcademy academy = Checks.withPlayers(2);
        Checks.play(academy, 0, 1, 2);
        duePairs("two who have met", academy, 1, 0);
        ClubAcademy three = Checks.withPlayers(3);
        Checks.play(three, 0, 1, 2);
        Checks.play(three, 2, 0, 0);
        // The order is 0 (4 points), 1, 2; 0 has met both.
        duePairs("one who has met all", three, 1, 0, -1);
        ClubAcademy four = Checks.withPlayers(4);
        Checks.play(four, 3, 2, 1);
        // 2 and 3 have a point each: 2 is paired with 0, who is next behind 3; then 3 with 1.
        duePairs("the first one picks", four, 2, 3, 0, 1);
        Checks.play(four, 3, 1, 1);
        // The order is 3 (2), 1 (1), 2 (1), 0: 3 is paired with 0, and 1 with 2.
        duePairs("the first one takes the last one", four, 3, 2, 1, 0);
        Checks.play(four, 1, 2, 1);
        Checks.play(four, 3, 0, 2);
        // The order is 3 (4), 1 (2), 2 (2), 0: 3 has met all; 2 has not met 0.
        duePairs("the next one, if all are met", four, 2, 3, 0, 1);
    }

    private static void dueWhite(String when, ClubAcademy academy, boolean... whites) {
        for (int player = 0; player < whites.length; player++) {
            CHECKS.due(when + ": hasWhite(" + player + ")", academy.hasWhite(player), whites[player]);
        }
    }

    private static void colours() {
        ClubAcademy academy = Checks.withPlayers(2);
        dueWhite("both alike", academy, true, false);
        Checks.play(academy, 0, 1, 1);
        dueWhite("0 had white", academy, false, true);
        Checks.play(academy, 1, 0, 1);
        dueWhite("both had white once", academy, true, false);
        Checks.play(academy, 1, 0, 1);
        dueWhite("1 had white twice", academy, true, false);
        ClubAcademy four = Checks.withPlayers(4);
        Checks.play(four, 0, 2, 1);
        Checks.play(four, 3, 0, 1);
        Checks.play(four, 0, 3, 1);
        Checks.play(four, 2, 1, 0);
        // Balances: 0 has +1, 1 has -1, 2 has 0, 3 has 0; scores 3, 2, 1, 2: 0 plays 1, 3 plays 2.
        duePairs("four players", four, 1, 0, 3, 2);
        dueWhite("four players", four, false, true, true, false);
        ClubAcademy more = Checks.withPlayers(3);
        Checks.play(more, 0, 2, 2);
        Checks.play(more, 2, 0, 0);
        Checks.play(more, 0, 2, 2);
        // 0 had white twice and black once, 1 had neither: the balance tells, not the count of white alone.
        dueWhite("the balance tells", more, false, true);
        Checks.play(more, 2, 0, 0);
        Checks.play(more, 2, 0, 0);
        // 0 had white twice and black three times: -1 is less often than 0.
        dueWhite("less often though more games", more, true, false);
        CHECKS.dueState("hasWhite(2), who is left over", () -> more.hasWhite(2) ? 1 : 0);
    }

    private static void gameThatGoesOn() {
        ClubAcademy academy = Checks.withPlayers(4);
        academy.begin(0, 1);
        duePairs("while a game goes on", academy, 1, 0, 3, 2);
        dueWhite("while a game goes on", academy, true, false, true, false);
        academy.end(1);
        duePairs("behind it", academy, 2, 3, 0, 1);
        dueWhite("behind it", academy, false, true, true, false);
        CHECKS.due("the next player is left over", academy.enter(), 4);
        CHECKS.due("opponent(4)", academy.opponent(4), -1);
        CHECKS.dueState("hasWhite(4)", () -> academy.hasWhite(4) ? 1 : 0);
    }

    private static void wrongPlayers() {
        ClubAcademy academy = Checks.withPlayers(1);
        int[] wrongPlayers = {-1, 1, 7, 8, Integer.MIN_VALUE, Integer.MAX_VALUE};
        for (int wrong : wrongPlayers) {
            CHECKS.dueIndex("opponent(" + wrong + ")", () -> academy.opponent(wrong));
            CHECKS.dueIndex("hasWhite(" + wrong + ")", () -> academy.hasWhite(wrong) ? 1 : 0);
        }
        CHECKS.dueState("hasWhite(0) alone", () -> academy.hasWhite(0) ? 1 : 0);
    }
}
