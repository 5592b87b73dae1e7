/** Promises 5 to 11: enter, begin, move, end, position, games, score. */
public final class GamesTest {
    private static final Checks CHECKS = new Checks("GamesTest");
    private static final int[] WRONG_PLAYERS = {-1, 2, 8, Integer.MIN_VALUE, Integer.MAX_VALUE};

    public static void main(String[] args) {
        enter();
        begin();
        beginThrowsInOrder();
        sixtyGames();
        move();
        twelveMoves();
        end();
        endThrowsInOrder();
        position();
        scores();
        throwingChangesNothing();
        objectsStandApart();
        CHECKS.finish();
    }

    private static void enter() {
        ClubAcademy academy = new ClubAcademy();
        for (int player = 0; player < 8; player++) {
            int number = player;
            CHECKS.dueIndex("score ahead of enter " + player, () -> academy.score(number));
            CHECKS.due("enter " + player, academy.enter(), player);
            CHECKS.due("score behind enter " + player, academy.score(player), 0);
        }
        CHECKS.dueState("the ninth enter", academy::enter);
        CHECKS.dueState("the tenth enter", academy::enter);
        CHECKS.dueIndex("no ninth player", () -> academy.score(8));
    }

    private static void begin() {
        ClubAcademy academy = Checks.withPlayers(3);
        CHECKS.due("first game", academy.begin(2, 0), 0);
        CHECKS.due("games() while the first one goes on", academy.games(), 0);
        academy.end(1);
        CHECKS.due("second game", academy.begin(0, 1), 1);
        CHECKS.dueState("begin while a game goes on", () -> academy.begin(2, 1));
        academy.end(1);
        CHECKS.due("third game", academy.begin(2, 1), 2);
        CHECKS.due("position at the beginning", academy.position(), 1);
    }

    private static void beginThrowsInOrder() {
        ClubAcademy academy = Checks.withPlayers(2);
        for (int wrong : WRONG_PLAYERS) {
            CHECKS.dueIndex("begin(" + wrong + ", 0)", () -> academy.begin(wrong, 0));
            CHECKS.dueIndex("begin(0, " + wrong + ")", () -> academy.begin(0, wrong));
            CHECKS.dueIndex("begin(" + wrong + ", the same)", () -> academy.begin(wrong, wrong));
        }
        CHECKS.dueArgument("begin(1, 1)", () -> academy.begin(1, 1));
        academy.begin(0, 1);
        CHECKS.dueIndex("begin(0, 2) while a game goes on", () -> academy.begin(0, 2));
        CHECKS.dueArgument("begin(0, 0) while a game goes on", () -> academy.begin(0, 0));
        CHECKS.dueState("begin(1, 0) while a game goes on", () -> academy.begin(1, 0));
    }

    private static void sixtyGames() {
        ClubAcademy academy = Checks.withPlayers(2);
        for (int game = 0; game < 60; game++) {
            CHECKS.due("begin of game " + game, academy.begin(game % 2, 1 - game % 2), game);
            academy.end(2);
            CHECKS.due("games() behind game " + game, academy.games(), game + 1);
        }
        CHECKS.dueState("begin of the 61st game", () -> academy.begin(0, 1));
        CHECKS.dueArgument("begin(0, 0) behind 60 games", () -> academy.begin(0, 0));
        CHECKS.dueIndex("begin(0, 2) behind 60 games", () -> academy.begin(0, 2));
        CHECKS.due("games() at last", academy.games(), 60);
        CHECKS.due("position() at last", academy.position(), -1);
        CHECKS.due("score(0) at last", academy.score(0), 60);
        CHECKS.due("score(1) at last", academy.score(1), 60);
    }

    private static void move() {
        ClubAcademy academy = Checks.withPlayers(2);
        CHECKS.dueState("move while no game goes on", () -> academy.move(0) ? 1 : 0);
        // In position 1 the moves lead to worths -10, -34, 43 and 19.
        boolean[] blunders = {true, true, false, false};
        for (int move = 0; move < 4; move++) {
            academy.begin(0, 1);
            CHECKS.due("first move " + move + " is a blunder", academy.move(move), blunders[move]);
            CHECKS.due("position behind move " + move, academy.position(), 12 + 13 * move);
            academy.end(1);
        }
        CHECKS.dueState("move when the game has ended", () -> academy.move(0) ? 1 : 0);
        CHECKS.dueArgument("move(4) while no game goes on", () -> academy.move(4) ? 1 : 0);
        academy.begin(0, 1);
        int[] wrongMoves = {-1, 4, Integer.MIN_VALUE, Integer.MAX_VALUE};
        for (int wrong : wrongMoves) {
            CHECKS.dueArgument("move(" + wrong + ")", () -> academy.move(wrong) ? 1 : 0);
        }
        CHECKS.due("position behind wrong moves", academy.position(), 1);
    }

    private static void twelveMoves() {
        ClubAcademy academy = Checks.withPlayers(2);
        academy.begin(0, 1);
        int[] reached = {12, 89, 628, 401, 812, 689, 828, 801, 612, 289, 28, 201};
        boolean[] blunders = {true, false, true, false, true, true, true, true, true, false, true, false};
        for (int i = 0; i < 12; i++) {
            CHECKS.due("move " + i + " is a blunder", academy.move(0), blunders[i]);
            CHECKS.due("position behind move " + i, academy.position(), reached[i]);
        }
        CHECKS.dueState("the 13th move", () -> academy.move(0) ? 1 : 0);
        CHECKS.dueArgument("the 13th move, out of range", () -> academy.move(-1) ? 1 : 0);
        CHECKS.due("position behind the 13th move", academy.position(), 201);
        CHECKS.due("puzzles of 12 moves", academy.end(0), 8);
        academy.begin(0, 1);
        CHECKS.due("the next game has moves again", academy.move(2), false);
    }

    private static void end() {
        ClubAcademy academy = Checks.withPlayers(2);
        academy.begin(0, 1);
        CHECKS.due("end without moves", academy.end(2), 0);
        CHECKS.due("end with two blunders", Checks.play(academy, 0, 1, 0, 0, 1), 2);
        CHECKS.due("end with the same blunders", Checks.play(academy, 1, 0, 1, 0, 1), 0);
        CHECKS.due("end with a new one among them", Checks.play(academy, 1, 0, 1, 0, 1, 1), 1);
    }

    private static void endThrowsInOrder() {
        ClubAcademy academy = Checks.withPlayers(2);
        int[] wrongResults = {-1, 3, Integer.MIN_VALUE, Integer.MAX_VALUE};
        CHECKS.dueState("end while no game goes on", () -> academy.end(0));
        for (int wrong : wrongResults) {
            CHECKS.dueArgument("end(" + wrong + ") while no game goes on", () -> academy.end(wrong));
        }
        academy.begin(0, 1);
        for (int wrong : wrongResults) {
            CHECKS.dueArgument("end(" + wrong + ")", () -> academy.end(wrong));
        }
        CHECKS.due("the game still goes on", academy.position(), 1);
        academy.end(0);
        CHECKS.dueState("end a second time", () -> academy.end(0));
    }

    private static void position() {
        ClubAcademy academy = Checks.withPlayers(2);
        CHECKS.due("position() ahead of a game", academy.position(), -1);
        academy.begin(0, 1);
        CHECKS.due("position() at the beginning", academy.position(), 1);
        academy.move(3);
        academy.move(3);
        CHECKS.due("position() behind 3, 3", academy.position(), 401);
        academy.end(2);
        CHECKS.due("position() behind the game", academy.position(), -1);
    }

    private static void scores() {
        ClubAcademy academy = Checks.withPlayers(3);
        Checks.play(academy, 0, 1, 2);
        CHECKS.due("white wins: white's score", academy.score(0), 2);
        CHECKS.due("white wins: black's score", academy.score(1), 0);
        Checks.play(academy, 0, 2, 1);
        CHECKS.due("a draw: white's score", academy.score(0), 3);
        CHECKS.due("a draw: black's score", academy.score(2), 1);
        Checks.play(academy, 1, 2, 0);
        CHECKS.due("black wins: white's score", academy.score(1), 0);
        CHECKS.due("black wins: black's score", academy.score(2), 3);
        academy.begin(2, 1);
        CHECKS.due("score while a game goes on", academy.score(2), 3);
        int[] wrongPlayers = {-1, 3, 8, Integer.MIN_VALUE, Integer.MAX_VALUE};
        for (int wrong : wrongPlayers) {
            CHECKS.dueIndex("score(" + wrong + ")", () -> academy.score(wrong));
        }
    }

    private static void throwingChangesNothing() {
        ClubAcademy academy = Checks.withPlayers(8);
        CHECKS.dueState("a ninth player", academy::enter);
        CHECKS.dueArgument("begin(3, 3)", () -> academy.begin(3, 3));
        CHECKS.due("no game was begun", academy.position(), -1);
        CHECKS.due("the first game still is 0", academy.begin(0, 1), 0);
        CHECKS.dueState("begin again", () -> academy.begin(2, 3));
        CHECKS.dueArgument("end(3)", () -> academy.end(3));
        academy.end(2);
        CHECKS.due("the players of the game got the result", academy.score(0), 2);
        CHECKS.due("others got none", academy.score(2) + academy.score(3), 0);
        CHECKS.due("the next game is 1", academy.begin(0, 1), 1);
    }

    private static void objectsStandApart() {
        ClubAcademy one = Checks.withPlayers(2);
        ClubAcademy other = Checks.withPlayers(1);
        Checks.play(one, 0, 1, 2, 0, 0);
        CHECKS.due("games of the other object", other.games(), 0);
        CHECKS.due("puzzles of the other object", other.puzzles(), 0);
        CHECKS.due("results in the other object", other.results(0, 1), 0);
        CHECKS.due("players of the other object", other.enter(), 1);
        CHECKS.due("score in the other object", other.score(0), 0);
    }
}
