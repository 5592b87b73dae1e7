/** Promises 1 to 4: a new object, after, worth, best. Nothing is promised behind 512 calls, so new objects are asked. */
public final class PositionsTest {
    private static final Checks CHECKS = new Checks("PositionsTest");

    public static void main(String[] args) {
        newObject();
        after();
        worth();
        best();
        wrongArguments();
        CHECKS.finish();
    }

    private static void newObject() {
        ClubAcademy academy = new ClubAcademy();
        CHECKS.dueIndex("score(0) of a new object", () -> academy.score(0));
        CHECKS.dueIndex("opponent(0) of a new object", () -> academy.opponent(0));
        CHECKS.due("position() of a new object", academy.position(), -1);
        CHECKS.due("games() of a new object", academy.games(), 0);
        CHECKS.due("puzzles() of a new object", academy.puzzles(), 0);
        CHECKS.due("results(0, 1) of a new object", academy.results(0, 1), 0);
        CHECKS.due("first player of a new object", academy.enter(), 0);
    }

    private static void after() {
        ClubAcademy academy = new ClubAcademy();
        int[][] rows = {{0, 0, 5}, {0, 3, 44}, {1, 0, 12}, {1, 1, 25}, {1, 2, 38}, {1, 3, 51},
            {142, 0, 999}, {500, 0, 505}, {999, 0, 998}, {999, 1, 11}, {999, 3, 37}};
        for (int[] row : rows) {
            CHECKS.due("after(" + row[0] + ", " + row[1] + ")", academy.after(row[0], row[1]), row[2]);
        }
        for (int position = 0; position < 1000; position++) {
            ClubAcademy other = new ClubAcademy();
            for (int move = 0; move < 4; move++) {
                int want = (7 * position + 13 * move + 5) % 1000;
                CHECKS.due("after(" + position + ", " + move + ")", other.after(position, move), want);
            }
        }
    }

    private static void worth() {
        ClubAcademy academy = new ClubAcademy();
        int[][] rows = {{0, -50}, {1, -13}, {101, -50}, {5, 34}, {25, -34}, {38, 43}, {51, 19}, {999, 48}};
        for (int[] row : rows) {
            CHECKS.due("worth(" + row[0] + ")", academy.worth(row[0]), row[1]);
        }
        for (int position = 0; position < 1000; position++) {
            CHECKS.due("worth(" + position + ")", new ClubAcademy().worth(position), position * 37 % 101 - 50);
        }
    }

    private static void best() {
        ClubAcademy academy = new ClubAcademy();
        int[][] rows = {{0, 0}, {1, 2}, {500, 1}, {999, 2}, {12, 3}, {628, 0}};
        for (int[] row : rows) {
            CHECKS.due("best(" + row[0] + ")", academy.best(row[0]), row[1]);
        }
        for (int position = 0; position < 1000; position++) {
            CHECKS.due("best(" + position + ")", new ClubAcademy().best(position), bestByWorths(position));
        }
    }

    private static int bestByWorths(int position) {
        int best = -1;
        int greatest = Integer.MIN_VALUE;
        for (int move = 0; move < 4; move++) {
            int worth = (7 * position + 13 * move + 5) % 1000 * 37 % 101 - 50;
            if (worth > greatest) {
                greatest = worth;
                best = move;
            }
        }
        return best;
    }

    private static void wrongArguments() {
        ClubAcademy academy = new ClubAcademy();
        int[] wrongPositions = {-1, 1000, Integer.MIN_VALUE, Integer.MAX_VALUE};
        for (int position : wrongPositions) {
            CHECKS.dueArgument("after(" + position + ", 0)", () -> academy.after(position, 0));
            CHECKS.dueArgument("worth(" + position + ")", () -> academy.worth(position));
            CHECKS.dueArgument("best(" + position + ")", () -> academy.best(position));
        }
        int[] wrongMoves = {-1, 4, Integer.MIN_VALUE, Integer.MAX_VALUE};
        for (int move : wrongMoves) {
            CHECKS.dueArgument("after(0, " + move + ")", () -> academy.after(0, move));
        }
    }
}
