/**
 * One object of the program, called by texts: a row is "begin 0 1 = 0", the call's name, its arguments
 * and the answer that is due; rows stand one behind the other with ";" between. What throws answers the
 * exception's name. The calls are counted, since nothing is promised of those beyond the 512th.
 */
final class Run {
    static final int MOST_CALLS = 512;

    private final ClubAcademy academy = new ClubAcademy();
    private final Checks checks;
    private final String name;
    private int calls;

    Run(Checks checks, String name) {
        this.checks = checks;
        this.name = name;
    }

    int calls() {
        return calls;
    }

    /** Makes the calls of the rows; answers all that was answered, with blanks between. */
    String rows(String rows) {
        StringBuilder answers = new StringBuilder();
        for (String row : rows.split(";")) {
            if (!row.isBlank()) {
                answers.append(row(row.strip())).append(' ');
            }
        }
        return answers.toString();
    }

    private String row(String row) {
        String[] halves = row.split(" *= *");
        String[] words = halves[0].split(" +");
        int[] arguments = new int[3];
        for (int i = 1; i < words.length; i++) {
            arguments[i - 1] = Integer.parseInt(words[i]);
        }
        String got = call(words[0], arguments[0], arguments[1], arguments[2]);
        if (halves.length > 1) {
            checks.due(name + ": call " + calls + ": " + halves[0], got, halves[1]);
        }
        return got;
    }

    /** That each of the arguments alone, put in for "#" in the row, has the same answer. */
    void each(String row, int... arguments) {
        for (int argument : arguments) {
            rows(row.replace("#", Integer.toString(argument)));
        }
    }

    /** Makes the calls of the rows several times, with the number of the time put in for "#". */
    void times(int times, String rows) {
        for (int i = 0; i < times; i++) {
            rows(rows.replace("#", Integer.toString(i)));
        }
    }

    /** Plays a whole game, with its moves as a text of digits; answers how many puzzles were made. */
    String play(int white, int black, String moves, int result) {
        call("begin", white, black, 0);
        for (char move : moves.toCharArray()) {
            call("move", move - '0', 0, 0);
        }
        return call("end", result, 0, 0);
    }

    String call(String call, int a, int b, int c) {
        calls++;
        if (calls > MOST_CALLS) {
            checks.due(name + ": calls of one object", calls, MOST_CALLS);
        }
        try {
            return answer(call, a, b, c);
        } catch (RuntimeException e) {
            return e.getClass().getSimpleName();
        }
    }

    private String answer(String call, int a, int b, int c) {
        switch (call) {
            case "after": return "" + academy.after(a, b);
            case "worth": return "" + academy.worth(a);
            case "best": return "" + academy.best(a);
            case "enter": return "" + academy.enter();
            case "begin": return "" + academy.begin(a, b);
            case "move": return "" + academy.move(a);
            case "end": return "" + academy.end(a);
            case "position": return "" + academy.position();
            case "games": return "" + academy.games();
            case "score": return "" + academy.score(a);
            case "puzzles": return "" + academy.puzzles();
            case "puzzle": return "" + academy.puzzle(a);
            case "source": return "" + academy.source(a);
            case "solve": return "" + academy.solve(a, b, c);
            case "offered": return "" + academy.offered(a);
            case "rating": return "" + academy.rating(a, b);
            case "results": return "" + academy.results(a, b);
            case "points": return "" + academy.points(a, b);
            case "isDropped": return "" + academy.isDropped(a, b);
            case "pointsOfGames": return "" + academy.pointsOfGames(a, b);
            case "mean": return "" + academy.mean(a, b);
            case "opponent": return "" + academy.opponent(a);
            case "hasWhite": return "" + academy.hasWhite(a);
            default: throw new IllegalArgumentException("no such call: " + call);
        }
    }
}
