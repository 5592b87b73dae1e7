/** All promises: runs of 512 calls with drawn arguments, each answer compared with that of the model. */
public final class ModelRunsTest {
    private static final Checks CHECKS = new Checks("ModelRunsTest");
    private static final int RUNS = 600;
    private static final int[] FAR = {-1, Integer.MIN_VALUE, Integer.MAX_VALUE, 1 << 30, -4};

    private static final String[] QUESTIONS = {
        "after", "worth", "best", "position", "games", "score", "puzzles", "puzzle", "source", "offered", "rating",
        "results", "points", "isDropped", "pointsOfGames", "mean", "opponent", "hasWhite",
        "results", "points", "isDropped", "pointsOfGames", "mean", "opponent", "hasWhite", "offered"};

    /** Numbers that look drawn, but are the same in each run of the test. */
    private static final class Draws {
        private long state;

        Draws(long seed) {
            state = seed;
        }

        int below(int end) {
            state = state * 6364136223846793005L + 1442695040888963407L;
            long mixed = (state ^ (state >>> 33)) * 0xff51afd7ed558ccdL;
            return (int) Math.floorMod(mixed >>> 20, (long) end);
        }
    }

    private final Draws random;
    private final Model model = new Model();
    private final String title;
    private final Run run;
    /** How a run differs from others: how many players, how many unlike moves, how long games, how it asks. */
    private final int players;
    private final int unlikeMoves;
    private final int length;
    private final int result;
    private final int askings;
    private int entered;
    private int made;
    private boolean goesOn;
    private String lastMoves = "";

    private ModelRunsTest(int number) {
        random = new Draws(number);
        title = "run " + number;
        run = new Run(CHECKS, title);
        players = 1 + random.below(9);
        unlikeMoves = 1 + random.below(4);
        length = random.below(14);
        result = random.below(4);
        askings = 1 + random.below(9);
    }

    public static void main(String[] args) {
        for (int number = 0; number < RUNS; number++) {
            new ModelRunsTest(number).calls();
        }
        CHECKS.finish();
    }

    private void calls() {
        while (run.calls() < Run.MOST_CALLS) {
            if (random.below(10) < askings && run.calls() > 10) {
                question();
            } else {
                deed();
            }
        }
    }

    private int near(int end) {
        int value = random.below(end + 1);
        return random.below(40) == 0 ? FAR[random.below(FAR.length)] : value == end && random.below(6) != 0 ? 0 : value;
    }

    private int drawnMove() {
        return random.below(50) == 0 ? near(4) : random.below(unlikeMoves);
    }

    private void deed() {
        if (entered < players && random.below(3) == 0) {
            entered += call("enter", 0, 0, 0).length() == 1 ? 1 : 0;
        } else if (made > 0 && random.below(8) == 0) {
            int player = near(Math.max(1, entered));
            int puzzle = near(made);
            boolean well = random.below(3) != 0 && puzzle >= 0 && puzzle < made;
            int move = well ? model.solution(puzzle) : near(4);
            call("solve", player, puzzle, move);
        } else if (!goesOn || random.below(40) == 0) {
            String answer = call("begin", near(Math.max(1, entered)), near(Math.max(1, entered)), 0);
            if (!answer.contains("Exception")) {
                goesOn = true;
                lastMoves = "";
            }
        } else if (random.below(length + 1) == 0) {
            int given = result < 3 && random.below(4) != 0 ? result : near(3);
            String answer = call("end", given, 0, 0);
            if (!answer.contains("Exception")) {
                goesOn = false;
                made += Integer.parseInt(answer);
            }
        } else {
            int move = drawnMove();
            if (!call("move", move, 0, 0).contains("Exception")) {
                lastMoves += move;
            }
        }
    }

    private void question() {
        String name = QUESTIONS[random.below(QUESTIONS.length)];
        switch (name) {
            case "after": call(name, near(1000), near(4), 0); break;
            case "worth": case "best": call(name, near(1000), 0, 0); break;
            case "puzzle": case "source": call(name, near(Math.max(1, made)), 0, 0); break;
            case "rating": call(name, near(Math.max(1, entered)), near(5), 0); break;
            case "results": case "points": case "isDropped": case "pointsOfGames": case "mean": line(name); break;
            default: call(name, near(Math.max(1, entered)), 0, 0); break;
        }
    }

    private void line(String name) {
        int moves = random.below(30) == 0 ? near(8) : 1 + random.below(6);
        int line = 0;
        for (int i = 5; i >= 0; i--) {
            boolean last = random.below(2) == 0 && i < lastMoves.length();
            line = 4 * line + (last ? lastMoves.charAt(i) - '0' : random.below(unlikeMoves));
        }
        if (moves >= 1 && moves <= 6 && random.below(40) != 0) {
            line %= 1 << 2 * moves;
        }
        call(name, random.below(60) == 0 ? FAR[random.below(FAR.length)] : line, moves, 0);
    }

    private String call(String name, int a, int b, int c) {
        String got = run.call(name, a, b, c);
        String want = model.call(name, a, b, c);
        CHECKS.due(title + ": " + name + "(" + a + ", " + b + ", " + c + ")", got, want);
        return got;
    }
}
