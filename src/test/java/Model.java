import java.util.ArrayList;
import java.util.HashSet;
import java.util.List;
import java.util.NoSuchElementException;
import java.util.Set;

/**
 * The document told a second time, slowly: nothing is kept but the games, and each answer about
 * index and ratings is made from them when it is asked for. ModelTest compares the two.
 */
final class Model {
    private static final String START = "RNKQNRPPPPPP............pppppprnkqnr";
    private static final int[][] STRAIGHT = {{1, 0}, {-1, 0}, {0, 1}, {0, -1}};
    private static final int[][] ALL_WAYS = {
        {1, 0}, {-1, 0}, {0, 1}, {0, -1}, {1, 1}, {1, -1}, {-1, 1}, {-1, -1}};
    private static final int[][] LEAPS = {
        {1, 2}, {1, -2}, {-1, 2}, {-1, -2}, {2, 1}, {2, -1}, {-2, 1}, {-2, -1}};

    private static final class Game {
        int white;
        int black;
        char state = 'u';
        int result = -1;
        int quiet = 0;
        boolean offered = false;
        int sealed = -1;
        final Set<Integer> opened = new HashSet<>();
        // The positions from the beginning on: the board's letters and, last, 'w' or 'b'.
        final List<String> positions = new ArrayList<>();
        final List<Integer> moves = new ArrayList<>();
        List<Integer> copy = new ArrayList<>();
        boolean gap = false;

        String position() {
            return positions.get(positions.size() - 1);
        }

        int mover() {
            return whiteMoves(position()) ? white : black;
        }
    }

    private final List<Game> games = new ArrayList<>();
    private final List<Game> finals = new ArrayList<>();

    // ---- boards

    private static boolean whiteMoves(String position) {
        return position.charAt(36) == 'w';
    }

    private static boolean isOf(boolean white, char piece) {
        return white ? Character.isUpperCase(piece) : Character.isLowerCase(piece);
    }

    /** All moves of the side that moves, be its king safe or not. */
    private static List<Integer> rawMoves(String position) {
        List<Integer> all = new ArrayList<>();
        boolean white = whiteMoves(position);
        for (int from = 0; from < 36; from++) {
            char piece = position.charAt(from);
            if (isOf(white, piece)) {
                switch (Character.toUpperCase(piece)) {
                    case 'P' -> addPawnMoves(position, from, white, all);
                    case 'N' -> addWalks(position, from, LEAPS, 1, all);
                    case 'R' -> addWalks(position, from, STRAIGHT, 6, all);
                    case 'Q' -> addWalks(position, from, ALL_WAYS, 6, all);
                    default -> addWalks(position, from, ALL_WAYS, 1, all);
                }
            }
        }
        return all;
    }

    private static void addPawnMoves(String position, int from, boolean white, List<Integer> all) {
        int row = from / 6 + (white ? 1 : -1);
        if (row < 0 || row > 5) {
            return;
        }
        int ahead = row * 6 + from % 6;
        if (position.charAt(ahead) == '.') {
            all.add(from * 100 + ahead);
        }
        for (int column = from % 6 - 1; column <= from % 6 + 1; column += 2) {
            if (column >= 0 && column < 6 && isOf(!white, position.charAt(row * 6 + column))) {
                all.add(from * 100 + row * 6 + column);
            }
        }
    }

    private static void addWalks(String position, int from, int[][] ways, int far, List<Integer> all) {
        boolean white = whiteMoves(position);
        for (int[] way : ways) {
            int row = from / 6 + way[0];
            int column = from % 6 + way[1];
            for (int i = 0; i < far && row >= 0 && row < 6 && column >= 0 && column < 6; i++) {
                char there = position.charAt(row * 6 + column);
                if (!isOf(white, there)) {
                    all.add(from * 100 + row * 6 + column);
                }
                if (there != '.') {
                    break;
                }
                row += way[0];
                column += way[1];
            }
        }
    }

    static String after(String position, int move) {
        char[] board = position.toCharArray();
        int from = move / 100;
        int to = move % 100;
        board[to] = board[from];
        board[from] = '.';
        if (board[to] == 'P' && to >= 30) {
            board[to] = 'Q';
        }
        if (board[to] == 'p' && to < 6) {
            board[to] = 'q';
        }
        board[36] = whiteMoves(position) ? 'b' : 'w';
        return new String(board);
    }

    static String passed(String position) {
        return position.substring(0, 36) + (whiteMoves(position) ? 'b' : 'w');
    }

    /** Whether the side that moves could take the king of the other one. */
    private static boolean takesKing(String position) {
        int king = position.indexOf(whiteMoves(position) ? 'k' : 'K');
        for (int move : rawMoves(position)) {
            if (move % 100 == king) {
                return true;
            }
        }
        return false;
    }

    static boolean isInCheck(String position) {
        return takesKing(passed(position));
    }

    static List<Integer> legal(String position) {
        List<Integer> all = new ArrayList<>();
        for (int move : rawMoves(position)) {
            if (!takesKing(after(position, move))) {
                all.add(move);
            }
        }
        return all;
    }

    static String mirrored(String position) {
        StringBuilder text = new StringBuilder();
        for (int row = 0; row < 6; row++) {
            text.append(new StringBuilder(position.substring(row * 6, row * 6 + 6)).reverse());
        }
        return text.append(position.charAt(36)).toString();
    }

    // ---- what tests ask of the model alone

    int count() {
        return games.size();
    }

    List<Integer> legalOf(int game) {
        return legal(games.get(game).position());
    }

    String positionOf(int game) {
        return games.get(game).position();
    }

    String afterMove(int game, int move) {
        return after(games.get(game).position(), move);
    }

    int timesOf(int game, String position) {
        int times = 0;
        for (String past : games.get(game).positions) {
            times += past.equals(position) ? 1 : 0;
        }
        return times;
    }

    char whyFinal(int game) {
        Game g = games.get(game);
        if (legal(g.position()).isEmpty()) {
            return takesKing(passed(g.position())) ? 'm' : 's';
        }
        return timesOf(game, g.position()) >= 3 ? '3' : g.quiet >= 40 ? 'q' : '-';
    }

    boolean mirrorsItself(int game) {
        List<String> came = games.get(game).positions;
        String last = came.get(came.size() - 1);
        return came.subList(1, came.size()).contains(mirrored(last));
    }

    // ---- the face

    private static boolean isMember(int member) {
        return member >= 0 && member <= 9;
    }

    private Game at(int game) {
        if (game < 0 || game >= games.size()) {
            throw new IndexOutOfBoundsException();
        }
        return games.get(game);
    }

    private static void square(int square) {
        if (square < 0 || square > 35) {
            throw new IllegalArgumentException();
        }
    }

    int begin(int white, int black) {
        if (!isMember(white) || !isMember(black) || white == black) {
            throw new IllegalArgumentException();
        }
        if (games.size() == 12) {
            throw new IllegalStateException();
        }
        Game g = new Game();
        g.white = white;
        g.black = black;
        g.positions.add(START + 'w');
        games.add(g);
        return games.size() - 1;
    }

    private void movable(Game g, int from, int to) {
        square(from);
        square(to);
        if (g.state != 'u' || !legal(g.position()).contains(from * 100 + to)) {
            throw new UnsupportedOperationException();
        }
    }

    private char made(Game g, int move) {
        String before = g.position();
        char piece = before.charAt(move / 100);
        boolean loud = piece == 'P' || piece == 'p' || before.charAt(move % 100) != '.';
        g.quiet = loud ? 0 : g.quiet + 1;
        g.moves.add(move);
        g.positions.add(after(before, move));
        g.offered = false;
        boolean stuck = legal(g.position()).isEmpty();
        if (stuck && takesKing(passed(g.position()))) {
            boolean blackMated = !whiteMoves(g.position());
            finish(g, blackMated ? 2 : 0);
            return blackMated ? 'w' : 'b';
        }
        if (stuck || times(g) >= 3 || g.quiet >= 40) {
            finish(g, 1);
            return 'd';
        }
        return 'u';
    }

    private void finish(Game g, int result) {
        g.state = 'f';
        g.result = result;
        finals.add(g);
    }

    private static int times(Game g) {
        int times = 0;
        for (String position : g.positions) {
            times += position.equals(g.position()) ? 1 : 0;
        }
        return times;
    }

    private int inState(char state) {
        int count = 0;
        for (Game g : games) {
            count += g.state == state ? 1 : 0;
        }
        return count;
    }

    char move(int game, int from, int to) {
        Game g = at(game);
        movable(g, from, to);
        return made(g, from * 100 + to);
    }

    boolean isLegal(int game, int from, int to) {
        Game g = at(game);
        square(from);
        square(to);
        return legal(g.position()).contains(from * 100 + to);
    }

    int legalMoves(int game) {
        return legal(at(game).position()).size();
    }

    boolean isInCheck(int game) {
        return takesKing(passed(at(game).position()));
    }

    int seal(int game, int from, int to) {
        Game g = at(game);
        movable(g, from, to);
        g.state = 'a';
        g.sealed = from * 100 + to;
        g.opened.clear();
        g.offered = false;
        return inState('a');
    }

    boolean open(int game, int member) {
        Game g = at(game);
        if (g.state != 'a') {
            throw new UnsupportedOperationException();
        }
        if (member != g.white && member != g.black || g.opened.contains(member)) {
            throw new NoSuchElementException();
        }
        g.opened.add(member);
        if (g.opened.size() < 2) {
            return false;
        }
        g.state = 'u';
        made(g, g.sealed);
        if (g.gap) {
            g.copy.add(g.sealed);
            g.gap = false;
        }
        return true;
    }

    private static void underWay(Game g) {
        if (g.state != 'u') {
            throw new UnsupportedOperationException();
        }
    }

    boolean offer(int game) {
        Game g = at(game);
        underWay(g);
        if (isLost(game, true) || isLost(game, false)) {
            throw new IllegalStateException();
        }
        boolean first = !g.offered;
        g.offered = true;
        return first;
    }

    int take(int game) {
        Game g = at(game);
        underWay(g);
        if (!g.offered) {
            throw new NoSuchElementException();
        }
        finish(g, 1);
        return inState('f');
    }

    int resign(int game) {
        Game g = at(game);
        underWay(g);
        finish(g, g.mover() == g.white ? 0 : 2);
        return g.result == 2 ? g.white : g.black;
    }

    char annul(int game) {
        Game g = at(game);
        if (g.state == 'x') {
            throw new UnsupportedOperationException();
        }
        char before = g.state;
        g.state = 'x';
        finals.remove(g);
        return before;
    }

    char stateOf(int game) {
        return at(game).state;
    }

    int result(int game) {
        Game g = at(game);
        if (g.state != 'f') {
            throw new NoSuchElementException();
        }
        return g.result;
    }

    boolean isWhite(int game) {
        return whiteMoves(at(game).position());
    }

    int moves(int game) {
        return at(game).moves.size();
    }

    int moveAt(int game, int index) {
        Game g = at(game);
        if (index < 0 || index >= g.moves.size()) {
            throw new NoSuchElementException();
        }
        return g.moves.get(index);
    }

    char pieceAt(int game, int square) {
        Game g = at(game);
        square(square);
        return g.position().charAt(square);
    }

    int quiet(int game) {
        return at(game).quiet;
    }

    int repeats(int game) {
        return times(at(game));
    }

    private List<Game> gamesWith(String position) {
        List<Game> with = new ArrayList<>();
        String other = mirrored(position);
        for (Game g : games) {
            List<String> came = g.positions.subList(1, g.positions.size());
            if (g.state != 'x' && (came.contains(position) || came.contains(other))) {
                with.add(g);
            }
        }
        return with;
    }

    int seen(int game) {
        return gamesWith(at(game).position()).size();
    }

    int finals(int game) {
        int count = 0;
        for (Game g : gamesWith(at(game).position())) {
            count += g.state == 'f' ? 1 : 0;
        }
        return count;
    }

    int points(int game) {
        int sum = 0;
        for (Game g : gamesWith(at(game).position())) {
            sum += g.state == 'f' ? g.result : 0;
        }
        return sum;
    }

    boolean isLost(int game, boolean isWhite) {
        int count = finals(game);
        if (count < 3) {
            return false;
        }
        float mean = (float) points(game) / (float) count;
        return isWhite ? mean < 0.5f : mean > 1.5f;
    }

    private double[] ratings() {
        double[] ratings = new double[10];
        java.util.Arrays.fill(ratings, 1500.0);
        for (Game g : finals) {
            double d = (ratings[g.black] - ratings[g.white]) / 400.0;
            if (d < -2.0) {
                d = -2.0;
            }
            if (d > 2.0) {
                d = 2.0;
            }
            double change = 32.0 * (g.result / 2.0 - (0.5 - d / 4.0));
            ratings[g.white] = ratings[g.white] + change;
            ratings[g.black] = ratings[g.black] - change;
        }
        return ratings;
    }

    double rating(int member) {
        if (!isMember(member)) {
            throw new IllegalArgumentException();
        }
        return ratings()[member];
    }

    int copy(int game) {
        Game g = at(game);
        int gained = g.moves.size() - g.copy.size();
        g.copy = new ArrayList<>(g.moves);
        g.gap = g.state == 'a';
        return gained;
    }

    int copied(int game) {
        return at(game).copy.size();
    }

    boolean hasGap(int game) {
        return at(game).gap;
    }

    boolean isWhole(int game) {
        Game g = at(game);
        return g.copy.equals(g.moves) && !g.gap;
    }

    int damage(int game, int kept) {
        Game g = at(game);
        if (kept < 0) {
            throw new IllegalArgumentException();
        }
        int before = g.copy.size();
        g.copy = new ArrayList<>(g.copy.subList(0, Math.min(kept, before)));
        g.gap = false;
        return before - g.copy.size();
    }

    int gaps() {
        int count = 0;
        for (Game g : games) {
            count += g.gap ? 1 : 0;
        }
        return count;
    }

    int games() {
        return games.size();
    }

    long allMoves() {
        long sum = 0;
        for (Game g : games) {
            sum += g.moves.size();
        }
        return sum;
    }

    float drawnShare() {
        if (finals.isEmpty()) {
            throw new ArithmeticException();
        }
        int drawn = 0;
        for (Game g : finals) {
            drawn += g.result == 1 ? 1 : 0;
        }
        return (float) drawn / (float) finals.size();
    }

    double meanRating() {
        double sum = 0.0;
        for (double rating : ratings()) {
            sum += rating;
        }
        return sum / 10.0;
    }

    boolean isSound() {
        return true;
    }
}
