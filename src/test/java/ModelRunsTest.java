/** All promises: runs of 512 calls with drawn arguments, each answer compared with that of the model. */
public final class ModelRunsTest {
    private static final Checks CHECKS = new Checks("ModelRunsTest");
    private static final int RUNS = 600;
    private static final int CALLS = 512;
    private static final int[] FAR = {-1, Integer.MIN_VALUE, Integer.MAX_VALUE, 1 << 30, -4};

    private static final String[] QUESTIONS = {
        "after", "worth", "best", "position", "games", "score", "puzzles", "puzzle", "source", "offered", "rating",
        "results", "points", "isDropped", "pointsOfGames", "mean", "opponent", "hasWhite",
        "results", "points", "isDropped", "pointsOfGames", "mean", "opponent", "hasWhite", "offered"};

    /** Numbers that look drawn, but are the same in each run of the test. */
    private static final class Draws {
        private long state;

        Draws(long seed) {
            state = seed;
        }

        int below(int end) {
            state = state * 6364136223846793005L + 1442695040888963407L;
            long mixed = (state ^ (state >>> 33)) * 0xff51afd7ed558ccdL;
            return (int) Math.floorMod(mixed >>> 20, (long) end);
        }
    }

    private final Draws random;
    private final ClubAcademy academy = new ClubAcademy();
    private final Model model = new Model();
    private final String run;
    /** How a run differs from others: how many players, how many unlike moves, how long games, how it asks. */
    private final int players;
    private final int unlikeMoves;
    private final int length;
    private final int result;
    private final int askings;
    private int entered;
    private int made;
    private boolean goesOn;
    private String lastMoves = "";

    private ModelRunsTest(int number) {
        random = new Draws(number);
        run = "run " + number;
        players = 1 + random.below(9);
        unlikeMoves = 1 + random.below(4);
        length = random.below(14);
        result = random.below(4);
        askings = 1 + random.below(9);
    }

    public static void main(String[] args) {
        for (int number = 0; number < RUNS; number++) {
            new ModelRunsTest(number).calls();
        }
        CHECKS.finish();
    }

    private void calls() {
        for (int i = 0; i < CALLS; i++) {
            if (random.below(10) < askings && i > 10) {
                question();
            } else {
                deed();
            }
        }
    }

    private int near(int end) {
        int value = random.below(end + 1);
        return random.below(40) == 0 ? FAR[random.below(FAR.length)] : value == end && random.below(6) != 0 ? 0 : value;
    }

    private int drawnMove() {
        return random.below(50) == 0 ? near(4) : random.below(unlikeMoves);
    }

    private void deed() {
        if (entered < players && random.below(3) == 0) {
            entered += call("enter", 0, 0, 0).length() == 1 ? 1 : 0;
        } else if (made > 0 && random.below(8) == 0) {
            int player = near(Math.max(1, entered));
            int puzzle = near(made);
            boolean well = random.below(3) != 0 && puzzle >= 0 && puzzle < made;
            int move = well ? academy.best(academy.puzzle(puzzle)) : near(4);
            call("solve", player, puzzle, move);
        } else if (!goesOn || random.below(40) == 0) {
            String answer = call("begin", near(Math.max(1, entered)), near(Math.max(1, entered)), 0);
            if (!answer.contains("Exception")) {
                goesOn = true;
                lastMoves = "";
            }
        } else if (random.below(length + 1) == 0) {
            int given = result < 3 && random.below(4) != 0 ? result : near(3);
            String answer = call("end", given, 0, 0);
            if (!answer.contains("Exception")) {
                goesOn = false;
                made += Integer.parseInt(answer);
            }
        } else {
            int move = drawnMove();
            if (!call("move", move, 0, 0).contains("Exception")) {
                lastMoves += move;
            }
        }
    }

    private void question() {
        String name = QUESTIONS[random.below(QUESTIONS.length)];
        switch (name) {
            case "after": call(name, near(1000), near(4), 0); break;
            case "worth": case "best": call(name, near(1000), 0, 0); break;
            case "puzzle": case "source": call(name, near(Math.max(1, made)), 0, 0); break;
            case "rating": call(name, near(Math.max(1, entered)), near(5), 0); break;
            case "results": case "points": case "isDropped": case "pointsOfGames": case "mean": line(name); break;
            default: call(name, near(Math.max(1, entered)), 0, 0); break;
        }
    }

    private void line(String name) {
        int moves = random.below(30) == 0 ? near(8) : 1 + random.below(6);
        int line = 0;
        for (int i = 5; i >= 0; i--) {
            boolean last = random.below(2) == 0 && i < lastMoves.length();
            line = 4 * line + (last ? lastMoves.charAt(i) - '0' : random.below(unlikeMoves));
        }
        if (moves >= 1 && moves <= 6 && random.below(40) != 0) {
            line %= 1 << 2 * moves;
        }
        call(name, random.below(60) == 0 ? FAR[random.below(FAR.length)] : line, moves, 0);
    }

    private String call(String name, int a, int b, int c) {
        String got;
        try {
            got = answer(name, a, b, c);
        } catch (RuntimeException e) {
            got = e.getClass().getSimpleName();
        }
        String want = model.call(name, a, b, c);
        CHECKS.due(run + ": " + name + "(" + a + ", " + b + ", " + c + ")", got, want);
        return got;
    }

    private static String text(boolean answer) {
        return answer ? "1" : "0";
    }

    private String answer(String name, int a, int b, int c) {
        switch (name) {
            case "after": return "" + academy.after(a, b);
            case "worth": return "" + academy.worth(a);
            case "best": return "" + academy.best(a);
            case "enter": return "" + academy.enter();
            case "begin": return "" + academy.begin(a, b);
            case "move": return text(academy.move(a));
            case "end": return "" + academy.end(a);
            case "position": return "" + academy.position();
            case "games": return "" + academy.games();
            case "score": return "" + academy.score(a);
            case "puzzles": return "" + academy.puzzles();
            case "puzzle": return "" + academy.puzzle(a);
            case "source": return "" + academy.source(a);
            case "solve": return text(academy.solve(a, b, c));
            case "offered": return "" + academy.offered(a);
            case "rating": return "" + academy.rating(a, b);
            case "results": return "" + academy.results(a, b);
            case "points": return "" + academy.points(a, b);
            case "isDropped": return text(academy.isDropped(a, b));
            case "pointsOfGames": return "" + academy.pointsOfGames(a, b);
            case "mean": return "" + academy.mean(a, b);
            case "opponent": return "" + academy.opponent(a);
            case "hasWhite": return text(academy.hasWhite(a));
            default: throw new IllegalArgumentException(name);
        }
    }
}
