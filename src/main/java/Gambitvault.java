import java.util.Arrays;
import java.util.NoSuchElementException;

/** A chess club's store of adjourned games, with an index of openings, a book of ratings and a backup. */
public final class Gambitvault {
    private static final int MEMBERS = 10;
    private static final int MOST_GAMES = 12;
    // An object is used for 512 calls, and none of them makes more than one move.
    private static final int MOST_MOVES = 512;
    private static final int MOST_QUIET = 40;
    private static final int MOST_REPEATS = 3;
    private static final int FEWEST_FINALS = 3;

    private static final char UNDER_WAY = 'u';
    private static final char ADJOURNED = 'a';
    private static final char FINAL = 'f';
    private static final char ANNULLED = 'x';

    private static final int WHITE_WON = 2;
    private static final int DRAWN = 1;
    private static final int BLACK_WON = 0;

    private static final int SIDE = 6;
    private static final int SQUARES = 36;
    private static final int HALF = 18;

    // White's pieces are above zero, the same ones of black below it.
    private static final int EMPTY = 0;
    private static final int PAWN = 1;
    private static final int KNIGHT = 2;
    private static final int ROOK = 3;
    private static final int QUEEN = 4;
    private static final int KING = 5;
    private static final int PIECES = 11;
    private static final String LETTERS = "kqrnp.PNRQK";
    private static final int[] START = {
        3, 2, 5, 4, 2, 3,
        1, 1, 1, 1, 1, 1,
        0, 0, 0, 0, 0, 0,
        0, 0, 0, 0, 0, 0,
        -1, -1, -1, -1, -1, -1,
        -3, -2, -5, -4, -2, -3
    };

    // Twice the moves that can come, so that a search for a free slot stays short.
    private static final int SLOTS = 1024;
    private static final int SLOT_BITS = 10;

    private final Game[] store = new Game[MOST_GAMES];
    private int begun = 0;
    private final Game[] finished = new Game[MOST_GAMES];
    private int finishedCount = 0;
    private final Openings openings = new Openings();
    private final RatingBook book = new RatingBook();

    // Kept only to make index and ratings anew, so that a check makes no object.
    private final Openings freshOpenings = new Openings();
    private final RatingBook freshBook = new RatingBook();
    private final Board freshBoard = new Board();

    public Gambitvault() {
    }

    public int begin(int white, int black) throws IllegalArgumentException, IllegalStateException {
        if (!isMember(white) || !isMember(black) || white == black) {
            throw new IllegalArgumentException("two different members, 0 to 9, play a game");
        }
        if (begun >= MOST_GAMES) {
            throw new IllegalStateException("there are 12 games");
        }
        store[begun] = new Game(begun, white, black);
        begun++;
        return begun - 1;
    }

    public char move(int game, int from, int to)
            throws IndexOutOfBoundsException, IllegalArgumentException, UnsupportedOperationException {
        Game found = gameAt(game);
        requireMove(found, from, to);
        return carryOut(found, from, to);
    }

    public boolean isLegal(int game, int from, int to)
            throws IndexOutOfBoundsException, IllegalArgumentException {
        Game found = gameAt(game);
        requireSquare(from);
        requireSquare(to);
        return found.board.permits(from, to);
    }

    public int legalMoves(int game) throws IndexOutOfBoundsException {
        return gameAt(game).board.countPermitted(SQUARES * SQUARES);
    }

    public boolean isInCheck(int game) throws IndexOutOfBoundsException {
        return gameAt(game).board.isKingOpen();
    }

    public int seal(int game, int from, int to)
            throws IndexOutOfBoundsException, IllegalArgumentException, UnsupportedOperationException {
        Game found = gameAt(game);
        requireMove(found, from, to);
        found.adjourn(from, to);
        return countIn(ADJOURNED);
    }

    public boolean open(int game, int member)
            throws IndexOutOfBoundsException, UnsupportedOperationException, NoSuchElementException {
        Game found = gameAt(game);
        if (found.state != ADJOURNED) {
            throw new UnsupportedOperationException("the game is not adjourned");
        }
        if (!found.awaits(member)) {
            throw new NoSuchElementException("the member does not play it, or has opened it");
        }
        found.openFor(member);
        if (!found.isOpenedByBoth()) {
            return false;
        }
        found.state = UNDER_WAY;
        carryOut(found, found.sealedFrom, found.sealedTo);
        found.copy.heal(found.moves, found.size);
        return true;
    }

    public boolean offer(int game)
            throws IndexOutOfBoundsException, UnsupportedOperationException, IllegalStateException {
        Game found = gameAt(game);
        requireUnderWay(found);
        if (openings.isLostFor(found.board, true) || openings.isLostFor(found.board, false)) {
            throw new IllegalStateException("the position is lost for a side");
        }
        boolean isNew = !found.isDrawOffered;
        found.isDrawOffered = true;
        return isNew;
    }

    public int take(int game)
            throws IndexOutOfBoundsException, UnsupportedOperationException, NoSuchElementException {
        Game found = gameAt(game);
        requireUnderWay(found);
        if (!found.isDrawOffered) {
            throw new NoSuchElementException("no draw is offered");
        }
        finish(found, DRAWN);
        return countIn(FINAL);
    }

    public int resign(int game) throws IndexOutOfBoundsException, UnsupportedOperationException {
        Game found = gameAt(game);
        requireUnderWay(found);
        boolean isWhiteGone = found.board.isWhiteNext;
        finish(found, isWhiteGone ? BLACK_WON : WHITE_WON);
        return isWhiteGone ? found.black : found.white;
    }

    public char annul(int game) throws IndexOutOfBoundsException, UnsupportedOperationException {
        Game found = gameAt(game);
        char before = found.state;
        if (before == ANNULLED) {
            throw new UnsupportedOperationException("the game is annulled");
        }
        openings.strike(found.number, before == FINAL, found.result);
        found.state = ANNULLED;
        if (before == FINAL) {
            dropFinished(found);
            payAllOut(book);
        }
        return before;
    }

    public char stateOf(int game) throws IndexOutOfBoundsException {
        return gameAt(game).state;
    }

    public int result(int game) throws IndexOutOfBoundsException, NoSuchElementException {
        Game found = gameAt(game);
        if (found.state != FINAL) {
            throw new NoSuchElementException("the game is not final");
        }
        return found.result;
    }

    public boolean isWhite(int game) throws IndexOutOfBoundsException {
        return gameAt(game).board.isWhiteNext;
    }

    public int moves(int game) throws IndexOutOfBoundsException {
        return gameAt(game).size;
    }

    public int moveAt(int game, int index) throws IndexOutOfBoundsException, NoSuchElementException {
        Game found = gameAt(game);
        if (index < 0 || index >= found.size) {
            throw new NoSuchElementException("there is no such move");
        }
        return found.moves[index];
    }

    public char pieceAt(int game, int square) throws IndexOutOfBoundsException, IllegalArgumentException {
        Game found = gameAt(game);
        requireSquare(square);
        return found.board.letterAt(square);
    }

    public int quiet(int game) throws IndexOutOfBoundsException {
        return gameAt(game).quietMoves;
    }

    public int repeats(int game) throws IndexOutOfBoundsException {
        return gameAt(game).timesCome();
    }

    public int seen(int game) throws IndexOutOfBoundsException {
        return openings.gamesWith(gameAt(game).board);
    }

    public int finals(int game) throws IndexOutOfBoundsException {
        return openings.finalsWith(gameAt(game).board);
    }

    public int points(int game) throws IndexOutOfBoundsException {
        return openings.pointsWith(gameAt(game).board);
    }

    public boolean isLost(int game, boolean isWhite) throws IndexOutOfBoundsException {
        return openings.isLostFor(gameAt(game).board, isWhite);
    }

    public double rating(int member) throws IllegalArgumentException {
        if (!isMember(member)) {
            throw new IllegalArgumentException("members are 0 to 9");
        }
        return book.ratings[member];
    }

    public int copy(int game) throws IndexOutOfBoundsException {
        Game found = gameAt(game);
        return found.copy.bringTo(found.moves, found.size, found.state == ADJOURNED);
    }

    public int copied(int game) throws IndexOutOfBoundsException {
        return gameAt(game).copy.size;
    }

    public boolean hasGap(int game) throws IndexOutOfBoundsException {
        return gameAt(game).copy.isGapped;
    }

    public boolean isWhole(int game) throws IndexOutOfBoundsException {
        Game found = gameAt(game);
        return found.copy.size == found.size && !found.copy.isGapped;
    }

    public int damage(int game, int kept) throws IndexOutOfBoundsException, IllegalArgumentException {
        Game found = gameAt(game);
        if (kept < 0) {
            throw new IllegalArgumentException("a copy keeps 0 moves or more");
        }
        return found.copy.cutTo(kept);
    }

    public int gaps() {
        int count = 0;
        for (int i = 0; i < MOST_GAMES; i++) {
            Game game = store[i];
            if (game != null && game.copy.isGapped) {
                count++;
            }
        }
        return count;
    }

    public int games() {
        return begun;
    }

    public long allMoves() {
        long sum = 0L;
        for (int i = 0; i < MOST_GAMES; i++) {
            Game game = store[i];
            if (game != null) {
                sum += game.size;
            }
        }
        return sum;
    }

    public float drawnShare() throws ArithmeticException {
        int all = 0;
        int drawn = 0;
        for (int i = 0; i < MOST_GAMES; i++) {
            Game game = store[i];
            if (game != null && game.state == FINAL) {
                all++;
                drawn += game.result == DRAWN ? 1 : 0;
            }
        }
        if (all == 0) {
            throw new ArithmeticException("no game is final");
        }
        return (float) drawn / (float) all;
    }

    public double meanRating() {
        double sum = 0.0;
        for (int member = 0; member < MEMBERS; member++) {
            sum += book.ratings[member];
        }
        return sum / 10.0;
    }

    public boolean isSound() {
        makeIndexAnew();
        payAllOut(freshBook);
        return openings.holdsAllOf(freshOpenings) && freshOpenings.holdsAllOf(openings)
                && book.isSameAs(freshBook) && areCopiesTrue();
    }

    private static boolean isMember(int member) {
        return member >= 0 && member < MEMBERS;
    }

    private static boolean isSquare(int square) {
        return square >= 0 && square < SQUARES;
    }

    private static void requireSquare(int square) {
        if (!isSquare(square)) {
            throw new IllegalArgumentException("squares are 0 to 35");
        }
    }

    private static void requireMove(Game game, int from, int to) {
        requireSquare(from);
        requireSquare(to);
        if (!game.admits(from, to)) {
            throw new UnsupportedOperationException("not under way, or not legal");
        }
    }

    private static void requireUnderWay(Game game) {
        if (game.state != UNDER_WAY) {
            throw new UnsupportedOperationException("the game is not under way");
        }
    }

    private Game gameAt(int game) {
        if (game < 0 || game >= MOST_GAMES) {
            throw new IndexOutOfBoundsException("games are 0 to 11");
        }
        Game found = store[game];
        if (found == null) {
            throw new IndexOutOfBoundsException("there is no such game");
        }
        return found;
    }

    private int countIn(char state) {
        int count = 0;
        for (int i = 0; i < MOST_GAMES; i++) {
            Game game = store[i];
            if (game != null && game.state == state) {
                count++;
            }
        }
        return count;
    }

    private char carryOut(Game game, int from, int to) {
        game.play(from, to);
        openings.enter(game.board, game.number);
        char verdict = game.judge(game.board.countPermitted(1) > 0);
        if (verdict == 'w') {
            finish(game, WHITE_WON);
        } else if (verdict == 'b') {
            finish(game, BLACK_WON);
        } else if (verdict == 'd') {
            finish(game, DRAWN);
        }
        return verdict;
    }

    private void finish(Game game, int result) {
        game.state = FINAL;
        game.result = result;
        openings.settle(game.number, result);
        book.payOut(game.white, game.black, result);
        if (finishedCount < MOST_GAMES) {
            finished[finishedCount] = game;
            finishedCount++;
        }
    }

    private void dropFinished(Game dropped) {
        int kept = 0;
        for (int i = 0; i < finishedCount && i < MOST_GAMES; i++) {
            Game game = finished[i];
            if (game != dropped) {
                finished[kept] = game;
                kept++;
            }
        }
        finishedCount = kept;
    }

    private void payAllOut(RatingBook target) {
        target.startOver();
        for (int i = 0; i < finishedCount && i < MOST_GAMES; i++) {
            Game game = finished[i];
            if (game != null) {
                target.payOut(game.white, game.black, game.result);
            }
        }
    }

    private void makeIndexAnew() {
        freshOpenings.clear();
        for (int i = 0; i < MOST_GAMES; i++) {
            Game game = store[i];
            if (game != null && game.state != ANNULLED) {
                replayInto(freshOpenings, game);
                if (game.state == FINAL) {
                    freshOpenings.settle(game.number, game.result);
                }
            }
        }
    }

    private void replayInto(Openings target, Game game) {
        freshBoard.setUp();
        for (int i = 0; i < game.size && i < MOST_MOVES; i++) {
            int move = game.moves[i];
            freshBoard.make(move / 100, move % 100);
            target.enter(freshBoard, game.number);
        }
    }

    private boolean areCopiesTrue() {
        for (int i = 0; i < MOST_GAMES; i++) {
            Game game = store[i];
            if (game != null && !game.copy.isTrueTo(game.moves, game.size)) {
                return false;
            }
        }
        return true;
    }

    /** The squares, the side that moves, and the rules by which a single move goes. */
    private static final class Board {
        final int[] squares = new int[SQUARES];
        boolean isWhiteNext;

        Board() {
            setUp();
        }

        void setUp() {
            System.arraycopy(START, 0, squares, 0, SQUARES);
            isWhiteNext = true;
        }

        char letterAt(int square) {
            int place = squares[square] + KING;
            return place >= 0 && place < PIECES ? LETTERS.charAt(place) : '.';
        }

        /** Returns whether the move took something or moved a pawn. */
        boolean make(int from, int to) {
            // A sealed move and one that is replayed come from where they were kept, not from a caller.
            if (!isSquare(from) || !isSquare(to)) {
                return false;
            }
            int piece = squares[from];
            boolean isPawn = piece == PAWN || piece == -PAWN;
            boolean isLoud = isPawn || squares[to] != EMPTY;
            int row = to / SIDE;
            boolean isCrowned = isPawn && row == (piece > 0 ? SIDE - 1 : 0);
            squares[to] = !isCrowned ? piece : piece > 0 ? QUEEN : -QUEEN;
            squares[from] = EMPTY;
            isWhiteNext = !isWhiteNext;
            return isLoud;
        }

        /** Returns the number of legal moves, or, if there are more, as many as are enough. */
        int countPermitted(int enough) {
            int count = 0;
            for (int from = 0; from < SQUARES; from++) {
                for (int to = 0; to < SQUARES && count < enough; to++) {
                    if (permits(from, to)) {
                        count++;
                    }
                }
            }
            return count;
        }

        boolean permits(int from, int to) {
            if (!canGo(from, to)) {
                return false;
            }
            int piece = squares[from];
            int taken = squares[to];
            squares[to] = piece;
            squares[from] = EMPTY;
            boolean isSafe = !isKingOpen();
            squares[from] = piece;
            squares[to] = taken;
            return isSafe;
        }

        boolean canGo(int from, int to) {
            int piece = squares[from];
            int target = squares[to];
            if (!isOwn(piece) || isOwn(target)) {
                return false;
            }
            boolean isPawn = piece == PAWN || piece == -PAWN;
            if (isPawn && target == EMPTY) {
                return to - from == (isWhiteNext ? SIDE : -SIDE);
            }
            return bearsOn(from, to);
        }

        boolean isKingOpen() {
            int king = squareOf(isWhiteNext ? KING : -KING);
            if (king < 0) {
                return false;
            }
            for (int from = 0; from < SQUARES; from++) {
                int piece = squares[from];
                if (piece != EMPTY && !isOwn(piece) && bearsOn(from, king)) {
                    return true;
                }
            }
            return false;
        }

        boolean isOwn(int piece) {
            return isWhiteNext ? piece > 0 : piece < 0;
        }

        int squareOf(int piece) {
            for (int square = 0; square < SQUARES; square++) {
                if (squares[square] == piece) {
                    return square;
                }
            }
            return -1;
        }

        /** Returns whether what stands on the one square could take something of the other side on the other. */
        boolean bearsOn(int from, int to) {
            int piece = squares[from];
            int up = to / SIDE - from / SIDE;
            int along = to % SIDE - from % SIDE;
            int most = Math.max(Math.abs(up), Math.abs(along));
            int least = Math.min(Math.abs(up), Math.abs(along));
            int step = Integer.signum(up) * SIDE + Integer.signum(along);
            switch (Math.abs(piece)) {
                case PAWN:
                    return up == (piece > 0 ? 1 : -1) && most == 1 && least == 1;
                case KNIGHT:
                    return most == 2 && least == 1;
                case ROOK:
                    return most > 0 && least == 0 && isWayFree(from, to, step);
                case QUEEN:
                    return most > 0 && (least == 0 || least == most) && isWayFree(from, to, step);
                case KING:
                    return most == 1;
                default:
                    return false;
            }
        }

        boolean isWayFree(int from, int to, int step) {
            int square = from + step;
            for (int i = 0; i < SIDE && square != to; i++) {
                if (square < 0 || square >= SQUARES || squares[square] != EMPTY) {
                    return false;
                }
                square += step;
            }
            return true;
        }

        /**
         * Returns half of the squares with the side that moves as one number, unlike for unlike ones:
         * two times 11 to the power of 18 is below 2 to the power of 64. It is never 0, which would
         * need more than one king of black.
         */
        long codeOfHalf(int first, boolean isMirrored) {
            long code = isWhiteNext ? 1L : 0L;
            for (int i = first; i < first + HALF && i < SQUARES; i++) {
                int square = isMirrored ? i + SIDE - 1 - 2 * (i % SIDE) : i;
                code = code * PIECES + (squares[square] + KING);
            }
            return code;
        }

        long lowCode(boolean isMirrored) {
            return codeOfHalf(0, isMirrored);
        }

        long highCode(boolean isMirrored) {
            return codeOfHalf(HALF, isMirrored);
        }

        /** Says for each of two mirrored positions which of them stands for both. */
        boolean isStoredMirrored() {
            long low = lowCode(false);
            long mirroredLow = lowCode(true);
            return low != mirroredLow ? mirroredLow < low : highCode(true) < highCode(false);
        }
    }

    /** One game: its players, its moves, its positions, and its copy in the backup. */
    private static final class Game {
        final int number;
        final int white;
        final int black;
        final Board board = new Board();
        final Copy copy = new Copy();
        final int[] moves = new int[MOST_MOVES];
        final long[] lows = new long[MOST_MOVES + 1];
        final long[] highs = new long[MOST_MOVES + 1];
        int size = 0;
        int quietMoves = 0;
        char state = UNDER_WAY;
        int result = 0;
        boolean isDrawOffered = false;
        int sealedFrom = 0;
        int sealedTo = 0;
        boolean isOpenedByWhite = false;
        boolean isOpenedByBlack = false;

        Game(int number, int white, int black) {
            this.number = number;
            this.white = white;
            this.black = black;
            notePosition();
        }

        boolean admits(int from, int to) {
            return state == UNDER_WAY && size < MOST_MOVES && board.permits(from, to);
        }

        void play(int from, int to) {
            if (size >= MOST_MOVES) {
                return;
            }
            moves[size] = 100 * from + to;
            size++;
            quietMoves = board.make(from, to) ? 0 : quietMoves + 1;
            isDrawOffered = false;
            notePosition();
        }

        void notePosition() {
            if (size <= MOST_MOVES) {
                lows[size] = board.lowCode(false);
                highs[size] = board.highCode(false);
            }
        }

        int timesCome() {
            long low = board.lowCode(false);
            long high = board.highCode(false);
            int times = 0;
            for (int i = 0; i <= size && i <= MOST_MOVES; i++) {
                if (lows[i] == low && highs[i] == high) {
                    times++;
                }
            }
            return times;
        }

        char judge(boolean canMove) {
            if (!canMove && board.isKingOpen()) {
                return board.isWhiteNext ? 'b' : 'w';
            }
            if (!canMove || timesCome() >= MOST_REPEATS || quietMoves >= MOST_QUIET) {
                return 'd';
            }
            return 'u';
        }

        void adjourn(int from, int to) {
            state = ADJOURNED;
            isDrawOffered = false;
            sealedFrom = from;
            sealedTo = to;
            isOpenedByWhite = false;
            isOpenedByBlack = false;
        }

        boolean awaits(int member) {
            return member == white && !isOpenedByWhite || member == black && !isOpenedByBlack;
        }

        void openFor(int member) {
            if (member == white) {
                isOpenedByWhite = true;
            } else {
                isOpenedByBlack = true;
            }
        }

        boolean isOpenedByBoth() {
            return isOpenedByWhite && isOpenedByBlack;
        }
    }

    /** The backup's copy of one game. */
    private static final class Copy {
        final int[] moves = new int[MOST_MOVES];
        int size = 0;
        boolean isGapped = false;

        /** Returns how many moves are new in the copy. */
        int bringTo(int[] made, int count, boolean isAdjourned) {
            int gained = count - size;
            for (int i = size; i < count && i < MOST_MOVES && i < made.length; i++) {
                moves[i] = made[i];
            }
            size = count;
            isGapped = isAdjourned;
            return gained;
        }

        /** A gap stands for one move, and what is before it was made: only the last move can be missing. */
        void heal(int[] made, int count) {
            if (isGapped) {
                bringTo(made, count, false);
            }
        }

        /** Returns how many moves are gone. */
        int cutTo(int kept) {
            int gone = kept < size ? size - kept : 0;
            size -= gone;
            isGapped = false;
            return gone;
        }

        boolean isTrueTo(int[] made, int count) {
            if (size > count) {
                return false;
            }
            for (int i = 0; i < size && i < MOST_MOVES && i < made.length; i++) {
                if (moves[i] != made[i]) {
                    return false;
                }
            }
            return true;
        }
    }

    /** The index: positions by their codes, in a table in which a slot with the code 0 is free. */
    private static final class Openings {
        final long[] lows = new long[SLOTS];
        final long[] highs = new long[SLOTS];
        // A bit for each game in which the position came: however often it did, it counts once.
        final int[] cameIn = new int[SLOTS];
        final int[] finalCounts = new int[SLOTS];
        final int[] pointSums = new int[SLOTS];

        void clear() {
            Arrays.fill(lows, 0L);
            Arrays.fill(highs, 0L);
            Arrays.fill(cameIn, 0);
            Arrays.fill(finalCounts, 0);
            Arrays.fill(pointSums, 0);
        }

        /** Returns the slot with the code, the free one where it would stand, or -1 if all are taken by others. */
        int slotOf(long low, long high) {
            long mixed = low * 0x9E3779B97F4A7C15L + high * 0xC2B2AE3D27D4EB4FL;
            int first = (int) (mixed >>> (64 - SLOT_BITS));
            for (int i = 0; i < SLOTS; i++) {
                int slot = (first + i) & (SLOTS - 1);
                if (lows[slot] == 0L || lows[slot] == low && highs[slot] == high) {
                    return slot;
                }
            }
            return -1;
        }

        int slotFor(Board board) {
            boolean isMirrored = board.isStoredMirrored();
            return slotOf(board.lowCode(isMirrored), board.highCode(isMirrored));
        }

        void enter(Board board, int game) {
            boolean isMirrored = board.isStoredMirrored();
            long low = board.lowCode(isMirrored);
            long high = board.highCode(isMirrored);
            int slot = slotOf(low, high);
            if (slot >= 0) {
                lows[slot] = low;
                highs[slot] = high;
                cameIn[slot] |= 1 << game;
            }
        }

        void settle(int game, int result) {
            for (int slot = 0; slot < SLOTS; slot++) {
                if (hasGame(slot, game)) {
                    finalCounts[slot]++;
                    pointSums[slot] += result;
                }
            }
        }

        void strike(int game, boolean isSettled, int result) {
            for (int slot = 0; slot < SLOTS; slot++) {
                if (hasGame(slot, game)) {
                    cameIn[slot] &= ~(1 << game);
                    finalCounts[slot] -= isSettled ? 1 : 0;
                    pointSums[slot] -= isSettled ? result : 0;
                }
            }
        }

        boolean hasGame(int slot, int game) {
            return (cameIn[slot] >> game & 1) == 1;
        }

        int gamesWith(Board board) {
            int slot = slotFor(board);
            return slot < 0 ? 0 : Integer.bitCount(cameIn[slot]);
        }

        int finalsWith(Board board) {
            int slot = slotFor(board);
            return slot < 0 ? 0 : finalCounts[slot];
        }

        int pointsWith(Board board) {
            int slot = slotFor(board);
            return slot < 0 ? 0 : pointSums[slot];
        }

        boolean isLostFor(Board board, boolean isWhite) {
            int count = finalsWith(board);
            if (count < FEWEST_FINALS) {
                return false;
            }
            float mean = (float) pointsWith(board) / (float) count;
            return isWhite ? mean < 0.5f : mean > 1.5f;
        }

        boolean holdsAllOf(Openings other) {
            for (int slot = 0; slot < SLOTS; slot++) {
                if (other.cameIn[slot] != 0 && !holds(other, slot)) {
                    return false;
                }
            }
            return true;
        }

        boolean holds(Openings other, int slot) {
            int own = slotOf(other.lows[slot], other.highs[slot]);
            return own >= 0 && cameIn[own] == other.cameIn[slot]
                    && finalCounts[own] == other.finalCounts[slot] && pointSums[own] == other.pointSums[slot];
        }
    }

    /** The members' ratings, as far as games were paid out in them. */
    private static final class RatingBook {
        final double[] ratings = new double[MEMBERS];

        RatingBook() {
            startOver();
        }

        void startOver() {
            Arrays.fill(ratings, 1500.0);
        }

        void payOut(int white, int black, int result) {
            if (!isMember(white) || !isMember(black)) {
                return;
            }
            double ahead = (ratings[black] - ratings[white]) / 400.0;
            double d = ahead < -2.0 ? -2.0 : ahead > 2.0 ? 2.0 : ahead;
            double expected = 0.5 - d / 4.0;
            double change = 32.0 * (result / 2.0 - expected);
            ratings[white] += change;
            ratings[black] -= change;
        }

        boolean isSameAs(RatingBook other) {
            for (int member = 0; member < MEMBERS; member++) {
                if (ratings[member] != other.ratings[member]) {
                    return false;
                }
            }
            return true;
        }
    }
}
