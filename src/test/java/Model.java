import java.util.ArrayList;
import java.util.Comparator;
import java.util.HashMap;
import java.util.HashSet;
import java.util.List;
import java.util.Map;
import java.util.Set;

/**
 * The academy once more, written from the document in another way: nothing is kept but what was done,
 * lines are texts, and the whole book is looked at behind each game. An answer is a text; that of a
 * call that throws is the exception's name.
 */
final class Model {
    static final String INDEX = "IndexOutOfBoundsException";
    static final String ARGUMENT = "IllegalArgumentException";
    static final String STATE = "IllegalStateException";

    private static final class Played {
        int white;
        int black;
        int result;
        String moves = "";
    }

    private final List<int[]> ratings = new ArrayList<>();
    private final List<Played> ended = new ArrayList<>();
    private final List<int[]> puzzles = new ArrayList<>();
    private final Set<String> tries = new HashSet<>();
    private final Map<String, int[]> book = new HashMap<>();
    private final Set<String> dropped = new HashSet<>();
    private Played played;

    private static int after(int position, int move) {
        return (7 * position + 13 * move + 5) % 1000;
    }

    private static int worth(int position) {
        return position * 37 % 101 - 50;
    }

    private static int best(int position) {
        int best = 3;
        for (int move = 2; move >= 0; move--) {
            best = worth(after(position, move)) >= worth(after(position, best)) ? move : best;
        }
        return best;
    }

    private static boolean blunder(int position, int move) {
        return worth(after(position, move)) <= worth(after(position, best(position))) - 40;
    }

    private static int reached(String moves) {
        int position = 1;
        for (char move : moves.toCharArray()) {
            position = after(position, move - '0');
        }
        return position;
    }

    private boolean isPlayer(int player) {
        return 0 <= player && player < ratings.size();
    }

    private boolean isPuzzle(int puzzle) {
        return 0 <= puzzle && puzzle < puzzles.size();
    }

    private static boolean in(int value, int end) {
        return 0 <= value && value < end;
    }

    private static String text(boolean answer) {
        return Boolean.toString(answer);
    }

    private static String text(int answer) {
        return Integer.toString(answer);
    }

    /** What a call is due to answer. */
    String call(String name, int a, int b, int c) {
        switch (name) {
            case "after": return in(a, 1000) && in(b, 4) ? text(after(a, b)) : ARGUMENT;
            case "worth": return in(a, 1000) ? text(worth(a)) : ARGUMENT;
            case "best": return in(a, 1000) ? text(best(a)) : ARGUMENT;
            case "enter": return enter();
            case "begin": return begin(a, b);
            case "move": return move(a);
            case "end": return end(a);
            case "position": return text(played == null ? -1 : reached(played.moves));
            case "games": return text(ended.size());
            case "score": return isPlayer(a) ? text(score(a)) : INDEX;
            case "puzzles": return text(puzzles.size());
            case "puzzle": return isPuzzle(a) ? text(puzzles.get(a)[0]) : INDEX;
            case "source": return isPuzzle(a) ? text(puzzles.get(a)[1]) : INDEX;
            case "solve": return solve(a, b, c);
            case "offered": return isPlayer(a) ? text(offered(a)) : INDEX;
            case "rating": return !isPlayer(a) ? INDEX : !in(b, 5) ? ARGUMENT : text(ratings.get(a)[b]);
            case "opponent": return isPlayer(a) ? text(opponent(a)) : INDEX;
            case "hasWhite": return hasWhite(a);
            default: return !in(b - 1, 6) || !in(a, (int) Math.pow(4, b)) ? ARGUMENT : ofLine(name, lineText(a, b));
        }
    }

    private String enter() {
        if (ratings.size() == 8) {
            return STATE;
        }
        ratings.add(new int[] {1000, 1000, 1000, 1000, 1000});
        return text(ratings.size() - 1);
    }

    private String begin(int white, int black) {
        if (!isPlayer(white) || !isPlayer(black)) {
            return INDEX;
        }
        if (white == black) {
            return ARGUMENT;
        }
        if (played != null || ended.size() == 60) {
            return STATE;
        }
        played = new Played();
        played.white = white;
        played.black = black;
        return text(ended.size());
    }

    private String move(int move) {
        if (!in(move, 4)) {
            return ARGUMENT;
        }
        if (played == null || played.moves.length() == 12) {
            return STATE;
        }
        boolean blunder = blunder(reached(played.moves), move);
        played.moves += move;
        return text(blunder);
    }

    private String end(int result) {
        if (!in(result, 3)) {
            return ARGUMENT;
        }
        if (played == null) {
            return STATE;
        }
        played.result = result;
        ended.add(played);
        int made = makePuzzles();
        keepBook();
        played = null;
        return text(made);
    }

    private int makePuzzles() {
        int ahead = puzzles.size();
        for (int i = 0; i < played.moves.length(); i++) {
            int position = reached(played.moves.substring(0, i));
            boolean known = puzzles.stream().anyMatch(puzzle -> puzzle[0] == position);
            if (blunder(position, played.moves.charAt(i) - '0') && !known && puzzles.size() < 40) {
                puzzles.add(new int[] {position, ended.size() - 1});
            }
        }
        return puzzles.size() - ahead;
    }

    private boolean isDropped(String line) {
        return dropped.stream().anyMatch(line::startsWith);
    }

    private void keepBook() {
        for (int length = 1; length <= Math.min(6, played.moves.length()); length++) {
            String line = played.moves.substring(0, length);
            if (!isDropped(line)) {
                int[] row = book.computeIfAbsent(line, key -> new int[2]);
                row[0]++;
                row[1] += played.result;
            }
        }
        for (int length = 1; length <= 6; length++) {
            for (Map.Entry<String, int[]> line : book.entrySet()) {
                int results = line.getValue()[0];
                int points = line.getValue()[1];
                int ofSide = length % 2 == 1 ? points : 2 * results - points;
                if (line.getKey().length() == length && results >= 3 && 3 * ofSide < 2 * results) {
                    dropped.add(line.getKey());
                }
            }
        }
    }

    private static String lineText(int line, int moves) {
        StringBuilder text = new StringBuilder();
        for (int i = 0; i < moves; i++) {
            text.append(line % 4);
            line /= 4;
        }
        return text.toString();
    }

    private String ofLine(String name, String line) {
        int[] row = book.getOrDefault(line, new int[2]);
        switch (name) {
            case "results": return text(row[0]);
            case "points": return text(row[1]);
            case "isDropped": return text(isDropped(line));
            case "pointsOfGames":
                return text(ended.stream().filter(game -> game.moves.startsWith(line)).mapToInt(game -> game.result).sum());
            case "mean": return Float.toString(row[0] == 0 ? 0f : (float) row[1] / (float) row[0]);
            default: throw new IllegalArgumentException(name);
        }
    }

    private int score(int player) {
        int sum = 0;
        for (Played game : ended) {
            sum += game.white == player ? game.result : game.black == player ? 2 - game.result : 0;
        }
        return sum;
    }

    private String solve(int player, int puzzle, int move) {
        if (!isPlayer(player) || !isPuzzle(puzzle)) {
            return INDEX;
        }
        if (!in(move, 4)) {
            return ARGUMENT;
        }
        if (!tries.add(player + "/" + puzzle)) {
            return STATE;
        }
        int position = puzzles.get(puzzle)[0];
        int[] row = ratings.get(player);
        int rating = row[position % 5];
        boolean solved = best(position) == move;
        rating += solved ? 32 - (rating > 1000 ? (rating - 1000) / 50 : 0) : -16;
        row[position % 5] = Math.min(3000, Math.max(100, rating));
        return text(solved);
    }

    /** The move that solves a puzzle, which must be there. */
    int solution(int puzzle) {
        return best(puzzles.get(puzzle)[0]);
    }

    private int offered(int player) {
        List<Integer> open = new ArrayList<>();
        for (int puzzle = 0; puzzle < puzzles.size(); puzzle++) {
            if (!tries.contains(player + "/" + puzzle)) {
                open.add(puzzle);
            }
        }
        open.sort(Comparator.<Integer>comparingInt(puzzle -> ratings.get(player)[puzzles.get(puzzle)[0] % 5])
            .thenComparingInt(puzzle -> puzzles.get(puzzle)[0] % 5)
            .thenComparingInt(puzzle -> puzzle));
        return open.isEmpty() ? -1 : open.get(0);
    }

    private boolean haveMet(int one, int other) {
        return ended.stream().anyMatch(game ->
            game.white == one && game.black == other || game.white == other && game.black == one);
    }

    private int opponent(int player) {
        List<Integer> order = new ArrayList<>();
        for (int i = 0; i < ratings.size(); i++) {
            order.add(i);
        }
        order.sort(Comparator.<Integer>comparingInt(i -> -score(i)).thenComparingInt(i -> i));
        while (order.size() > 1) {
            int first = order.remove(0);
            int second = order.stream().filter(i -> !haveMet(first, i)).findFirst().orElse(order.get(0));
            order.remove((Integer) second);
            if (player == first || player == second) {
                return player == first ? second : first;
            }
        }
        return -1;
    }

    private int balance(int player) {
        return (int) (ended.stream().filter(game -> game.white == player).count()
            - ended.stream().filter(game -> game.black == player).count());
    }

    private String hasWhite(int player) {
        if (!isPlayer(player)) {
            return INDEX;
        }
        int other = opponent(player);
        if (other < 0) {
            return STATE;
        }
        int difference = balance(player) - balance(other);
        return text(difference < 0 || difference == 0 && player < other);
    }
}
