import java.util.ArrayList;
import java.util.List;
import java.util.Random;

/**
 * Positions by chance, put on the boards from outside: kings, pawns and others on every square, in the
 * corners too. What is legal has to be as the model tells it, and the index has to tell positions apart
 * by each single square, and to take mirrored ones for one.
 */
public final class AnyPositionTest {
    private static final int POSITIONS = 1500;
    private static final int PAIRS = 36 * 36;
    private static final int QUESTIONS = 432;
    private static final Check check = new Check();

    public static void main(String[] args) {
        Random random = new Random(6);
        for (int i = 0; i < POSITIONS; i++) {
            String position = somePosition(random);
            legality(position);
            endOfAMove(position, random);
            mirrored(position, random);
        }
        for (int corner : new int[] {0, 5, 30, 35}) {
            for (int i = 0; i < 40; i++) {
                legality(withKingAt(somePosition(random), corner, random.nextBoolean()));
            }
        }
        lowerHalvesAlike(random);
        eachSquareCounts();
        check.end("AnyPositionTest");
    }

    private static String somePosition(Random random) {
        char[] board = ".".repeat(36).toCharArray();
        for (char piece : "QRNqrn".toCharArray()) {
            for (int i = random.nextInt(3); i > 0; i--) {
                board[random.nextInt(36)] = piece;
            }
        }
        for (int i = random.nextInt(12); i > 0; i--) {
            board[6 + random.nextInt(24)] = random.nextBoolean() ? 'P' : 'p';
        }
        int white = random.nextInt(36);
        board[white] = 'K';
        board[(white + 1 + random.nextInt(35)) % 36] = 'k';
        return new String(board) + (random.nextBoolean() ? 'w' : 'b');
    }

    private static String withKingAt(String position, int square, boolean isWhite) {
        char king = isWhite ? 'K' : 'k';
        if (position.charAt(square) == (isWhite ? 'k' : 'K')) {
            return position;
        }
        StringBuilder board = new StringBuilder(position);
        board.setCharAt(position.indexOf(king), '.');
        board.setCharAt(square, king);
        return board.toString();
    }

    private static Gambitvault with(String... positions) {
        Gambitvault x = new Gambitvault();
        for (int game = 0; game < positions.length; game++) {
            x.begin(0, 1);
            Inside.putPosition(x, game, positions[game]);
        }
        return x;
    }

    private static void legality(String position) {
        List<Integer> legal = Model.legal(position);
        for (int first = 0; first < PAIRS; first += QUESTIONS) {
            Gambitvault x = with(position);
            check.due(position + ": legal moves", legal.size(), x.legalMoves(0));
            check.due(position + ": in check", Model.isInCheck(position), x.isInCheck(0));
            for (int pair = first; pair < first + QUESTIONS; pair++) {
                int from = pair / 36;
                int to = pair % 36;
                check.due(position + ": " + from + " to " + to, legal.contains(from * 100 + to), x.isLegal(0, from, to));
            }
        }
    }

    /** Moves that take no king: from positions by chance, a king could stand to be taken. */
    private static List<Integer> soundMoves(String position) {
        List<Integer> moves = new ArrayList<>();
        for (int move : Model.legal(position)) {
            if (Character.toUpperCase(position.charAt(move % 100)) != 'K') {
                moves.add(move);
            }
        }
        return moves;
    }

    private static void endOfAMove(String position, Random random) {
        for (int move : soundMoves(position)) {
            if (random.nextInt(4) == 0) {
                String next = Model.after(position, move);
                char due = !Model.legal(next).isEmpty() ? 'u' : !Model.isInCheck(next) ? 'd'
                        : next.charAt(36) == 'b' ? 'w' : 'b';
                Gambitvault x = with(position);
                check.due(position + ": move " + move, due, x.move(0, move / 100, move % 100));
                for (int square = 0; square < 36; square++) {
                    check.due(position + ": move " + move, next.charAt(square), x.pieceAt(0, square));
                }
            }
        }
    }

    private static void mirrored(String position, Random random) {
        List<Integer> moves = soundMoves(position);
        if (moves.isEmpty()) {
            return;
        }
        int move = moves.get(random.nextInt(moves.size()));
        Gambitvault x = with(position, Model.mirrored(position), Model.passed(Model.after(position, move)));
        x.move(0, move / 100, move % 100);
        x.move(1, mirror(move / 100), mirror(move % 100));
        check.due(position + ": mirrored, seen", 2, x.seen(0));
        check.due(position + ": mirrored, seen from the other one", 2, x.seen(1));
        check.due(position + ": the same squares, the other side moves", 0, x.seen(2));
    }

    private static int mirror(int square) {
        return square / 6 * 6 + 5 - square % 6;
    }

    /** Both kings above, and below them the same squares when mirrored. */
    private static void lowerHalvesAlike(Random random) {
        for (int i = 0; i < 200; i++) {
            StringBuilder board = new StringBuilder(somePosition(random));
            for (int row = 0; row < 3; row++) {
                for (int column = 0; column < 3; column++) {
                    char piece = i % 2 == 0 ? '.' : "..PRN.".charAt(random.nextInt(row == 0 ? 2 : 6));
                    board.setCharAt(row * 6 + column, piece);
                    board.setCharAt(row * 6 + 5 - column, piece);
                }
            }
            for (int square = 18; square < 36; square++) {
                if (Character.toUpperCase(board.charAt(square)) == 'K') {
                    board.setCharAt(square, '.');
                }
            }
            board.setCharAt(18 + random.nextInt(6), 'K');
            board.setCharAt(30 + random.nextInt(6), 'k');
            mirrored(board.toString(), random);
            mirrored(turned(board.toString()), random);
        }
    }

    /** The same, below for above. */
    private static String turned(String position) {
        StringBuilder board = new StringBuilder();
        for (int row = 5; row >= 0; row--) {
            board.append(position, row * 6, row * 6 + 6);
        }
        return board.append(position.charAt(36)).toString();
    }

    private static void eachSquareCounts() {
        String kings = "...............K.........k..........";
        for (int square = 0; square < 36; square++) {
            for (char piece : "PNRQpnrq".toCharArray()) {
                if (kings.charAt(square) == '.') {
                    StringBuilder board = new StringBuilder(kings).append('w');
                    board.setCharAt(square, piece);
                    onlyItself(kings + 'w', board.toString());
                }
            }
        }
    }

    private static void onlyItself(String first, String second) {
        for (int move : Model.legal(first)) {
            if (Model.legal(second).contains(move) && second.charAt(move % 100) == '.') {
                Gambitvault x = with(first, second);
                x.move(0, move / 100, move % 100);
                x.move(1, move / 100, move % 100);
                check.due(second + ": another position", 1, x.seen(0));
                check.due(second + ": another position", 1, x.seen(1));
                return;
            }
        }
    }
}
