/**
 * A chess club's academy: games of few moves are played with ratings by theme, blunders in them are
 * made into puzzles, a book of lines keeps results and drops lines that do badly, and rounds are
 * paired by score and colour.
 */
public final class ClubAcademy {
    private static final int POSITIONS = 1000;
    private static final int FIRST_POSITION = 1;
    private static final int MOVES = 4;
    private static final int THEMES = 5;
    private static final int BLUNDER_LOSS = 40;
    private static final int HIGHEST_RESULT = 2;

    private static final int MOST_PLAYERS = 8;
    private static final int MOST_GAMES = 60;
    private static final int MOST_MOVES = 12;
    private static final int MOST_PUZZLES = 40;

    private static final int FIRST_RATING = 1000;
    private static final int LEAST_RATING = 100;
    private static final int GREATEST_RATING = 3000;
    private static final int SOLVED_GAIN = 32;
    private static final int FAILED_LOSS = 16;
    private static final int GAIN_DAMPING = 50;

    private static final int LONGEST_LINE = 6;
    private static final int RESULTS_TO_DROP = 3;

    private final Player[] players = new Player[MOST_PLAYERS];
    private int playerCount;
    private final Game[] playedGames = new Game[MOST_GAMES];
    private int gameCount;
    private Game current;
    private final Puzzle[] madePuzzles = new Puzzle[MOST_PUZZLES];
    private int puzzleCount;
    private final Book book = new Book();

    public ClubAcademy() {
    }

    // ---- positions

    public int after(int position, int move) throws IllegalArgumentException {
        checkPosition(position);
        checkMove(move);
        return positionAfter(position, move);
    }

    public int worth(int position) throws IllegalArgumentException {
        checkPosition(position);
        return worthOf(position);
    }

    public int best(int position) throws IllegalArgumentException {
        checkPosition(position);
        return bestMove(position);
    }

    // ---- players and games

    public int enter() throws IllegalStateException {
        int number = playerCount;
        if (number < 0 || number >= players.length) {
            throw new IllegalStateException("there are as many players as there may be");
        }
        players[number] = new Player(number);
        playerCount = number + 1;
        return number;
    }

    public int begin(int white, int black)
            throws IndexOutOfBoundsException, IllegalArgumentException, IllegalStateException {
        Player whitePlayer = knownPlayer(white);
        Player blackPlayer = knownPlayer(black);
        if (white == black) {
            throw new IllegalArgumentException("a game is of two unlike players");
        }
        if (current != null) {
            throw new IllegalStateException("a game goes on");
        }
        int number = gameCount;
        if (number < 0 || number >= playedGames.length) {
            throw new IllegalStateException("there were as many games as there may be");
        }
        current = new Game(whitePlayer, blackPlayer);
        playedGames[number] = current;
        gameCount = number + 1;
        return number;
    }

    public boolean move(int move) throws IllegalArgumentException, IllegalStateException {
        checkMove(move);
        Game game = current;
        if (game == null) {
            throw new IllegalStateException("no game goes on");
        }
        if (game.isFull()) {
            throw new IllegalStateException("the game has as many moves as it may have");
        }
        boolean blunder = isBlunder(game.reached, move);
        game.addMove(move);
        return blunder;
    }

    public int end(int result) throws IllegalArgumentException, IllegalStateException {
        if (result < 0 || result > HIGHEST_RESULT) {
            throw new IllegalArgumentException("result is out of range");
        }
        Game game = current;
        if (game == null) {
            throw new IllegalStateException("no game goes on");
        }
        game.result = result;
        current = null;
        game.white.endGameAsWhite(game.black, result);
        game.black.endGameAsBlack(game.white, HIGHEST_RESULT - result);
        book.keepResult(game);
        return makePuzzles(game, gameCount - 1);
    }

    public int position() {
        Game game = current;
        return game == null ? -1 : game.reached;
    }

    public int games() {
        return current == null ? gameCount : gameCount - 1;
    }

    public int score(int player) throws IndexOutOfBoundsException {
        return knownPlayer(player).scoreSum;
    }

    // ---- puzzles

    public int puzzles() {
        return puzzleCount;
    }

    public int puzzle(int puzzle) throws IndexOutOfBoundsException {
        return knownPuzzle(puzzle).start;
    }

    public int source(int puzzle) throws IndexOutOfBoundsException {
        return knownPuzzle(puzzle).game;
    }

    public boolean solve(int player, int puzzle, int move)
            throws IndexOutOfBoundsException, IllegalArgumentException, IllegalStateException {
        Player solver = knownPlayer(player);
        Puzzle tried = knownPuzzle(puzzle);
        checkMove(move);
        if (solver.hasTried(puzzle)) {
            throw new IllegalStateException("the player has tried the puzzle");
        }
        boolean solved = move == bestMove(tried.start);
        solver.markTried(puzzle);
        solver.changeRating(tried.theme, solved);
        return solved;
    }

    public int offered(int player) throws IndexOutOfBoundsException {
        Player solver = knownPlayer(player);
        int found = -1;
        int foundTheme = 0;
        for (int number = 0; number < madePuzzles.length; number++) {
            Puzzle offer = madePuzzles[number];
            if (offer == null || solver.hasTried(number)) {
                continue;
            }
            if (found < 0 || solver.needsMore(offer.theme, foundTheme)) {
                found = number;
                foundTheme = offer.theme;
            }
        }
        return found;
    }

    public int rating(int player, int theme) throws IndexOutOfBoundsException, IllegalArgumentException {
        Player rated = knownPlayer(player);
        if (theme < 0 || theme >= THEMES) {
            throw new IllegalArgumentException("theme is out of range");
        }
        return rated.ratingIn(theme);
    }

    // ---- the book; lines are told by their moves in base 4, the first one lowest, and how many they are

    public int results(int line, int moves) throws IllegalArgumentException {
        checkLine(line, moves);
        Line found = book.find(line, moves);
        return found == null ? 0 : found.resultCount;
    }

    public int points(int line, int moves) throws IllegalArgumentException {
        checkLine(line, moves);
        Line found = book.find(line, moves);
        return found == null ? 0 : found.resultSum;
    }

    public boolean isDropped(int line, int moves) throws IllegalArgumentException {
        checkLine(line, moves);
        return book.holdsDropped(line, moves);
    }

    public int pointsOfGames(int line, int moves) throws IllegalArgumentException {
        checkLine(line, moves);
        int sum = 0;
        for (Game game : playedGames) {
            if (game != null && game != current && game.beginsWith(line, moves)) {
                sum += game.result;
            }
        }
        return sum;
    }

    public float mean(int line, int moves) throws IllegalArgumentException {
        checkLine(line, moves);
        Line found = book.find(line, moves);
        if (found == null || found.resultCount == 0) {
            return 0.0f;
        }
        return (float) found.resultSum / (float) found.resultCount;
    }

    // ---- pairing

    public int opponent(int player) throws IndexOutOfBoundsException {
        Player asked = knownPlayer(player);
        pairPlayers();
        Player other = asked.partner;
        return other == null ? -1 : other.number;
    }

    public boolean hasWhite(int player) throws IndexOutOfBoundsException, IllegalStateException {
        Player asked = knownPlayer(player);
        pairPlayers();
        Player other = asked.partner;
        if (other == null) {
            throw new IllegalStateException("the player would have no game");
        }
        if (asked.colourBalance() != other.colourBalance()) {
            return asked.colourBalance() < other.colourBalance();
        }
        return asked.number < other.number;
    }

    // ---- checks of arguments

    private static void checkPosition(int position) {
        if (position < 0 || position >= POSITIONS) {
            throw new IllegalArgumentException("position is out of range");
        }
    }

    private static void checkMove(int move) {
        if (move < 0 || move >= MOVES) {
            throw new IllegalArgumentException("move is out of range");
        }
    }

    private static void checkLine(int line, int moves) {
        // The count is looked at first: the line's bound is a shift by it.
        if (moves < 1 || moves > LONGEST_LINE) {
            throw new IllegalArgumentException("moves is out of range");
        }
        if (line < 0 || line >= (1 << (2 * moves))) {
            throw new IllegalArgumentException("line is out of range");
        }
    }

    private Player knownPlayer(int number) {
        Player found = number >= 0 && number < players.length ? players[number] : null;
        if (found == null) {
            throw new IndexOutOfBoundsException("there is no such player");
        }
        return found;
    }

    private Puzzle knownPuzzle(int number) {
        Puzzle found = number >= 0 && number < madePuzzles.length ? madePuzzles[number] : null;
        if (found == null) {
            throw new IndexOutOfBoundsException("there is no such puzzle");
        }
        return found;
    }

    // ---- the rule of positions

    private static int positionAfter(int position, int move) {
        return (7 * position + 13 * move + 5) % POSITIONS;
    }

    private static int worthOf(int position) {
        return position * 37 % 101 - 50;
    }

    private static int worthAfter(int position, int move) {
        return worthOf(positionAfter(position, move));
    }

    private static int bestMove(int position) {
        int found = 0;
        for (int move = 1; move < MOVES; move++) {
            if (worthAfter(position, move) > worthAfter(position, found)) {
                found = move;
            }
        }
        return found;
    }

    private static boolean isBlunder(int position, int move) {
        return worthAfter(position, bestMove(position)) - worthAfter(position, move) >= BLUNDER_LOSS;
    }

    private static int moveOfLine(int line, int index) {
        return (line >> (2 * index)) & 3;
    }

    // ---- making puzzles

    private int makePuzzles(Game game, int gameNumber) {
        int made = 0;
        int position = FIRST_POSITION;
        for (int index = 0; index < game.moveCount; index++) {
            int move = game.moveAt(index);
            if (isBlunder(position, move) && addPuzzle(position, gameNumber)) {
                made++;
            }
            position = positionAfter(position, move);
        }
        return made;
    }

    private boolean addPuzzle(int position, int gameNumber) {
        int number = puzzleCount;
        if (number < 0 || number >= madePuzzles.length || hasPuzzleFor(position)) {
            return false;
        }
        madePuzzles[number] = new Puzzle(position, gameNumber);
        puzzleCount = number + 1;
        return true;
    }

    private boolean hasPuzzleFor(int position) {
        for (Puzzle made : madePuzzles) {
            if (made != null && made.start == position) {
                return true;
            }
        }
        return false;
    }

    // ---- making pairs

    private void pairPlayers() {
        for (Player player : players) {
            if (player != null) {
                player.partner = null;
            }
        }
        for (int pair = 0; pair < MOST_PLAYERS / 2; pair++) {
            Player first = firstUnpaired();
            Player second = first == null ? null : partnerFor(first);
            if (first == null || second == null) {
                return;
            }
            first.partner = second;
            second.partner = first;
        }
    }

    private Player firstUnpaired() {
        Player found = null;
        for (Player player : players) {
            if (player != null && player.partner == null && player.standsAheadOf(found)) {
                found = player;
            }
        }
        return found;
    }

    /** Everyone else who is unpaired stands behind the first one, so the next one is the foremost of them. */
    private Player partnerFor(Player first) {
        Player next = null;
        Player nextUnmet = null;
        for (Player player : players) {
            if (player == null || player == first || player.partner != null) {
                continue;
            }
            if (player.standsAheadOf(next)) {
                next = player;
            }
            if (!first.hasMet(player) && player.standsAheadOf(nextUnmet)) {
                nextUnmet = player;
            }
        }
        return nextUnmet == null ? next : nextUnmet;
    }

    /** A player of the club. */
    private static final class Player {
        final int number;
        private final int[] ratings = new int[THEMES];
        private final boolean[] tried = new boolean[MOST_PUZZLES];
        private final boolean[] met = new boolean[MOST_PLAYERS];
        private int whiteGames;
        private int blackGames;
        int scoreSum;
        /** With whom the last pairing paired this player; null if with none. */
        Player partner;

        Player(int number) {
            this.number = number;
            for (int theme = 0; theme < ratings.length; theme++) {
                ratings[theme] = FIRST_RATING;
            }
        }

        void endGameAsWhite(Player other, int gain) {
            whiteGames++;
            endGame(other, gain);
        }

        void endGameAsBlack(Player other, int gain) {
            blackGames++;
            endGame(other, gain);
        }

        private void endGame(Player other, int gain) {
            scoreSum += gain;
            if (other.number >= 0 && other.number < met.length) {
                met[other.number] = true;
            }
        }

        boolean hasMet(Player other) {
            return other.number >= 0 && other.number < met.length && met[other.number];
        }

        int colourBalance() {
            return whiteGames - blackGames;
        }

        boolean standsAheadOf(Player other) {
            if (other == null || scoreSum > other.scoreSum) {
                return true;
            }
            return scoreSum == other.scoreSum && number < other.number;
        }

        boolean hasTried(int puzzle) {
            return puzzle >= 0 && puzzle < tried.length && tried[puzzle];
        }

        void markTried(int puzzle) {
            if (puzzle >= 0 && puzzle < tried.length) {
                tried[puzzle] = true;
            }
        }

        int ratingIn(int theme) {
            return theme >= 0 && theme < ratings.length ? ratings[theme] : FIRST_RATING;
        }

        /** Whether puzzles of a theme are offered ahead of those of another one. */
        boolean needsMore(int theme, int otherTheme) {
            int rating = ratingIn(theme);
            int otherRating = ratingIn(otherTheme);
            return rating < otherRating || (rating == otherRating && theme < otherTheme);
        }

        void changeRating(int theme, boolean solved) {
            if (theme >= 0 && theme < ratings.length) {
                ratings[theme] = ratingBehindTry(ratings[theme], solved);
            }
        }

        private static int ratingBehindTry(int rating, boolean solved) {
            int excess = Math.max(0, rating - FIRST_RATING);
            int change = solved ? SOLVED_GAIN - excess / GAIN_DAMPING : -FAILED_LOSS;
            return Math.min(GREATEST_RATING, Math.max(LEAST_RATING, rating + change));
        }
    }

    /** A game, with the moves made in it so far. */
    private static final class Game {
        final Player white;
        final Player black;
        private final int[] madeMoves = new int[MOST_MOVES];
        int moveCount;
        int reached = FIRST_POSITION;
        int result;

        Game(Player white, Player black) {
            this.white = white;
            this.black = black;
        }

        boolean isFull() {
            return moveCount >= madeMoves.length;
        }

        void addMove(int move) {
            if (moveCount >= 0 && moveCount < madeMoves.length) {
                madeMoves[moveCount] = move;
                moveCount++;
                reached = positionAfter(reached, move);
            }
        }

        int moveAt(int index) {
            return index >= 0 && index < madeMoves.length ? madeMoves[index] : 0;
        }

        boolean beginsWith(int line, int length) {
            if (moveCount < length) {
                return false;
            }
            for (int index = 0; index < length; index++) {
                if (moveAt(index) != moveOfLine(line, index)) {
                    return false;
                }
            }
            return true;
        }
    }

    /** A puzzle made of a blunder: the position ahead of it, and the game in which it was made. */
    private static final class Puzzle {
        final int start;
        final int theme;
        final int game;

        Puzzle(int start, int game) {
            this.start = start;
            this.theme = start % THEMES;
            this.game = game;
        }
    }

    /** A line in the book, with the lines that go on from it by one move. */
    private static final class Line {
        private final Line[] next = new Line[MOVES];
        int resultCount;
        int resultSum;
        boolean dropped;

        /** The line that goes on with a move; null if the book has none. */
        Line goingOnWith(int move) {
            return move >= 0 && move < next.length ? next[move] : null;
        }

        /** The same, put into the book if it has none; null only for what is no move. */
        Line madeWith(int move) {
            if (move < 0 || move >= next.length) {
                return null;
            }
            Line line = next[move];
            if (line == null) {
                line = new Line();
                next[move] = line;
            }
            return line;
        }

        boolean doesBadly(boolean ofWhite) {
            int sidePoints = ofWhite ? resultSum : HIGHEST_RESULT * resultCount - resultSum;
            return resultCount >= RESULTS_TO_DROP && 3 * sidePoints < 2 * resultCount;
        }
    }

    /**
     * The tree of lines. Only the first dropped line on a way is marked: nothing that begins with it
     * gains results any more, and all of it counts as dropped.
     */
    private static final class Book {
        private final Line root = new Line();

        void keepResult(Game game) {
            int length = Math.min(game.moveCount, LONGEST_LINE);
            addResult(game, length);
            dropBadLine(game, length);
        }

        private void addResult(Game game, int length) {
            Line line = root;
            for (int index = 0; index < length; index++) {
                line = line.madeWith(game.moveAt(index));
                if (line == null || line.dropped) {
                    return;
                }
                line.resultCount++;
                line.resultSum += game.result;
            }
        }

        /** No line but those of the game has changed, so no other one is looked at. */
        private void dropBadLine(Game game, int length) {
            Line line = root;
            for (int index = 0; index < length; index++) {
                line = line.goingOnWith(game.moveAt(index));
                if (line == null || line.dropped) {
                    return;
                }
                // White makes the first move, so a line of an odd number of moves ends with index even.
                if (line.doesBadly(index % 2 == 0)) {
                    line.dropped = true;
                    return;
                }
            }
        }

        Line find(int line, int length) {
            Line found = root;
            for (int index = 0; index < length && found != null; index++) {
                found = found.goingOnWith(moveOfLine(line, index));
            }
            return found;
        }

        boolean holdsDropped(int line, int length) {
            Line found = root;
            for (int index = 0; index < length && found != null; index++) {
                found = found.goingOnWith(moveOfLine(line, index));
                if (found != null && found.dropped) {
                    return true;
                }
            }
            return false;
        }
    }
}
