import java.util.NoSuchElementException;

/** Each promise of the document by itself: ordinary inputs, the edges that it names, and wrong inputs. */
public final class PromiseTest {
    private static final Class<IndexOutOfBoundsException> NO_GAME = IndexOutOfBoundsException.class;
    private static final Class<IllegalArgumentException> BAD = IllegalArgumentException.class;
    private static final Class<IllegalStateException> BAD_STATE = IllegalStateException.class;
    private static final Class<UnsupportedOperationException> NOT_NOW = UnsupportedOperationException.class;
    private static final Class<NoSuchElementException> NONE = NoSuchElementException.class;

    private static final int LOW = Integer.MIN_VALUE;
    private static final int HIGH = Integer.MAX_VALUE;

    private static final Check check = new Check();

    public static void main(String[] args) {
        newObject();
        begin();
        move();
        movesOfPieces();
        endsOfGames();
        isLegal();
        legalMoves();
        isInCheck();
        seal();
        open();
        offer();
        take();
        resign();
        annul();
        stateOfAndResult();
        isWhiteAndMoves();
        moveAt();
        pieceAt();
        quiet();
        repeats();
        seen();
        mirroredPositions();
        finalsAndPoints();
        isLost();
        rating();
        ratingsAnew();
        copyAndCopied();
        gapsThatHeal();
        hasGapAndIsWhole();
        damage();
        gapsAndGames();
        allMoves();
        drawnShare();
        meanRating();
        isSound();
        throwingChangesNothing();
        check.end("PromiseTest");
    }

    private static void due(String what, Object want, Object got) {
        check.due(what, want, got);
    }

    private static Gambitvault withGame() {
        Gambitvault x = new Gambitvault();
        x.begin(0, 1);
        return x;
    }

    /** Makes the moves and returns what the last one answered. */
    private static char play(Gambitvault x, int game, int... moves) {
        char last = '-';
        for (int move : moves) {
            last = x.move(game, move / 100, move % 100);
        }
        return last;
    }

    private static int[] first(int[] moves, int count) {
        return java.util.Arrays.copyOf(moves, count);
    }

    private static String board(Gambitvault x, int game) {
        StringBuilder text = new StringBuilder();
        for (int square = 0; square < 36; square++) {
            text.append(x.pieceAt(game, square));
        }
        return text.toString();
    }

    private static String all(Gambitvault x) {
        StringBuilder text = new StringBuilder();
        for (int g = 0; g < x.games(); g++) {
            text.append(board(x, g)).append(x.stateOf(g)).append(x.isWhite(g)).append(x.moves(g));
            text.append(' ').append(x.quiet(g)).append(' ').append(x.repeats(g)).append(' ').append(x.seen(g));
            text.append(' ').append(x.finals(g)).append(' ').append(x.points(g)).append(' ').append(x.copied(g));
            text.append(' ').append(x.hasGap(g)).append(' ').append(x.isWhole(g)).append(' ');
        }
        for (int member = 0; member < 10; member++) {
            text.append(x.rating(member)).append(' ');
        }
        return text.append(x.gaps()).append(' ').append(x.allMoves()).append(x.isSound()).toString();
    }

    private static void newObject() {
        Gambitvault x = new Gambitvault();
        due("new: games", 0, x.games());
        due("new: all moves", 0L, x.allMoves());
        due("new: gaps", 0, x.gaps());
        due("new: sound", true, x.isSound());
        due("new: rating", 1500.0, x.rating(0));
        check.thrown("new: no game 0", NO_GAME, () -> x.stateOf(0));
        withGame();
        due("new: another object is not changed", 0, x.games());
    }

    private static void begin() {
        Gambitvault x = new Gambitvault();
        check.thrown("begin(-1, 0)", BAD, () -> x.begin(-1, 0));
        check.thrown("begin(0, 10)", BAD, () -> x.begin(0, 10));
        check.thrown("begin(lowest)", BAD, () -> x.begin(LOW, HIGH));
        check.thrown("begin(3, 3)", BAD, () -> x.begin(3, 3));
        due("begin: a throw begins none", 0, x.games());
        for (int i = 0; i < 12; i++) {
            due("begin " + i, i, x.begin(i % 2 == 0 ? 9 : 0, i % 2 == 0 ? 0 : 9));
        }
        check.thrown("begin: a 13th", BAD_STATE, () -> x.begin(0, 1));
        check.thrown("begin: a 13th of one member", BAD, () -> x.begin(1, 1));
        x.annul(0);
        check.thrown("begin: annulled ones count", BAD_STATE, () -> x.begin(0, 1));
        due("begin: the board", "RNKQNRPPPPPP............pppppprnkqnr", board(x, 11));
        due("begin: white moves", true, x.isWhite(11));
    }

    private static void move() {
        Gambitvault x = withGame();
        check.thrown("move: no game -1", NO_GAME, () -> x.move(-1, 99, 99));
        check.thrown("move: no game 1", NO_GAME, () -> x.move(1, 6, 12));
        check.thrown("move: no square -1", BAD, () -> x.move(0, -1, 12));
        check.thrown("move: no square 36", BAD, () -> x.move(0, 6, 36));
        check.thrown("move: lowest", BAD, () -> x.move(0, LOW, HIGH));
        check.thrown("move: the same square", NOT_NOW, () -> x.move(0, 6, 6));
        check.thrown("move: of the other side", NOT_NOW, () -> x.move(0, 24, 18));
        check.thrown("move: of nothing", NOT_NOW, () -> x.move(0, 12, 18));
        check.thrown("move: on an own one", NOT_NOW, () -> x.move(0, 0, 6));
        due("move: goes on", 'u', x.move(0, 6, 12));
        check.thrown("move: white twice", NOT_NOW, () -> x.move(0, 12, 18));
        due("move: black's", 'u', x.move(0, 24, 18));
        x.seal(0, 7, 13);
        check.thrown("move: adjourned", NOT_NOW, () -> x.move(0, 7, 13));
        check.thrown("move: adjourned, no square", BAD, () -> x.move(0, 7, 36));
        x.annul(0);
        check.thrown("move: annulled", NOT_NOW, () -> x.move(0, 7, 13));
        x.begin(0, 1);
        x.resign(1);
        check.thrown("move: final", NOT_NOW, () -> x.move(1, 7, 13));
    }

    private static void movesOfPieces() {
        Gambitvault x = withGame();
        due("pawn: no double step", false, x.isLegal(0, 8, 20));
        due("pawn: no free slant", false, x.isLegal(0, 8, 13));
        due("knight: over others", true, x.isLegal(0, 1, 14));
        due("queen: not over others", false, x.isLegal(0, 3, 15));
        due("rook: not over others", false, x.isLegal(0, 0, 12));
        play(x, 0, 612, 2418);
        due("pawn: not on what stands ahead", false, x.isLegal(0, 12, 18));
        due("rook: up the free line", true, x.isLegal(0, 0, 6));
        due("pawn: not round the edge", false, x.isLegal(0, 12, 17));
        play(x, 0, 713, 2519);
        due("pawn: takes at a slant", true, x.isLegal(0, 12, 19));
        due("pawn: takes at the other slant", true, x.isLegal(0, 13, 18));
        due("pawn: does not take far off in the next row", false, x.isLegal(0, 12, 22));
        play(x, 0, 1219);
        due("pawn: black takes downward only", false, x.isLegal(0, 18, 25));
        due("pawn: black takes", true, x.isLegal(0, 18, 13));
        due("knight: not as a rook", false, x.isLegal(0, 31, 25));
        due("knight: black's goes down", true, x.isLegal(0, 31, 20));
        play(x, 0, 1813);
        due("king: one square", true, x.isLegal(0, 2, 7));
        due("king: one square only", false, x.isLegal(0, 2, 12));
        Gambitvault crowning = withGame();
        play(crowning, 0, Lines.WHITE_CROWNS);
        due("pawn: white's becomes a queen", 'Q', crowning.pieceAt(0, 35));
        Gambitvault below = withGame();
        play(below, 0, Lines.BLACK_CROWNS);
        due("pawn: black's becomes a queen", 'q', below.pieceAt(0, 4));
    }

    private static void endsOfGames() {
        Gambitvault x = withGame();
        due("white wins", 'w', play(x, 0, Lines.WHITE_MATES));
        x.begin(0, 1);
        due("black wins", 'b', play(x, 1, Lines.BLACK_MATES));
        x.begin(0, 1);
        due("no legal move is drawn", 'd', play(x, 2, Lines.STALEMATE));
        x.begin(0, 1);
        due("the position comes a second time", 'u', play(x, 3, first(Lines.THRICE, 7)));
        due("the beginning comes the third time", 'd', x.move(3, 23, 34));
        due("results", "2011", "" + x.result(0) + x.result(1) + x.result(2) + x.result(3));
        check.thrown("no move behind the end", NOT_NOW, () -> x.move(3, 1, 12));
        endsAtForty();
    }

    private static void endsAtForty() {
        Gambitvault mated = withGame();
        due("39 quiet moves", 'u', play(mated, 0, first(Lines.MATE_AT_FORTY, 43)));
        due("39 quiet moves, counted", 39, mated.quiet(0));
        due("a mate goes before the 40 moves", 'b', mated.move(0, 17, 3));
        due("40 quiet moves, counted", 40, mated.quiet(0));
        Gambitvault drawn = withGame();
        play(drawn, 0, first(Lines.MATE_AT_FORTY, 43));
        due("40 quiet moves are drawn", 'd', drawn.move(0, 31, 30));
        Gambitvault loud = withGame();
        play(loud, 0, first(Lines.MATE_AT_FORTY, 43));
        due("something taken instead", 'u', loud.move(0, 17, 16));
        due("something taken, counted", 0, loud.quiet(0));
        Gambitvault pawn = withGame();
        play(pawn, 0, first(Lines.MATE_AT_FORTY, 43));
        due("a pawn moved instead", 'u', pawn.move(0, 28, 22));
        due("a pawn moved, counted", 0, pawn.quiet(0));
    }

    private static void isLegal() {
        Gambitvault x = withGame();
        check.thrown("isLegal: no game", NO_GAME, () -> x.isLegal(1, 36, 36));
        check.thrown("isLegal: lowest game", NO_GAME, () -> x.isLegal(LOW, 0, 0));
        check.thrown("isLegal: no square from", BAD, () -> x.isLegal(0, 36, 0));
        check.thrown("isLegal: no square to", BAD, () -> x.isLegal(0, 0, -1));
        due("isLegal: a pawn ahead", true, x.isLegal(0, 6, 12));
        due("isLegal: of black", false, x.isLegal(0, 24, 18));
        x.seal(0, 6, 12);
        due("isLegal: adjourned, as if not sealed", true, x.isLegal(0, 6, 12));
        x.annul(0);
        due("isLegal: annulled", true, x.isLegal(0, 7, 13));
        Gambitvault mated = withGame();
        play(mated, 0, Lines.WHITE_MATES);
        due("isLegal: no way out of a mate", false, mated.isLegal(0, 27, 21));
        Gambitvault pinned = withGame();
        play(pinned, 0, 814, 2418, 318, 2620, 1830);
        due("isLegal: what the king would be open behind", false, pinned.isLegal(0, 31, 18));
        due("isLegal: of another knight", true, pinned.isLegal(0, 34, 21));
        Gambitvault guarded = withGame();
        play(guarded, 0, Lines.BLACK_MATES);
        due("isLegal: the king where it could be taken", false, guarded.isLegal(0, 2, 7));
    }

    private static void legalMoves() {
        Gambitvault x = withGame();
        check.thrown("legalMoves: no game", NO_GAME, () -> x.legalMoves(1));
        check.thrown("legalMoves: lowest", NO_GAME, () -> x.legalMoves(LOW));
        due("legalMoves: at the beginning", 10, x.legalMoves(0));
        play(x, 0, 915, 2822);
        due("legalMoves: behind two moves", 13, x.legalMoves(0));
        x.annul(0);
        due("legalMoves: annulled", 13, x.legalMoves(0));
        x.begin(0, 1);
        play(x, 1, Lines.BLACK_MATES);
        due("legalMoves: mated", 0, x.legalMoves(1));
        x.begin(0, 1);
        play(x, 2, Lines.STALEMATE);
        due("legalMoves: none, and no check", 0, x.legalMoves(2));
    }

    private static void isInCheck() {
        Gambitvault x = withGame();
        check.thrown("isInCheck: no game", NO_GAME, () -> x.isInCheck(1));
        check.thrown("isInCheck: highest", NO_GAME, () -> x.isInCheck(HIGH));
        due("isInCheck: at the beginning", false, x.isInCheck(0));
        play(x, 0, Lines.WHITE_MATES);
        due("isInCheck: mated", true, x.isInCheck(0));
        x.annul(0);
        due("isInCheck: annulled", true, x.isInCheck(0));
        x.begin(0, 1);
        play(x, 1, Lines.STALEMATE);
        due("isInCheck: no legal move only", false, x.isInCheck(1));
        x.begin(0, 1);
        play(x, 2, first(Lines.WHITE_CROWNS, 5));
        due("isInCheck: a pawn two files off", false, x.isInCheck(2));
        play(x, 2, 3423, 2833);
        due("isInCheck: by the queen that was a pawn", true, x.isInCheck(2));
        x.begin(0, 1);
        play(x, 3, 814, 2822, 1420, 3423);
        due("isInCheck: not yet", false, x.isInCheck(3));
        play(x, 3, 2027);
        due("isInCheck: by a pawn at a slant", true, x.isInCheck(3));
    }

    private static void seal() {
        Gambitvault x = withGame();
        check.thrown("seal: no game", NO_GAME, () -> x.seal(1, 99, 99));
        check.thrown("seal: no square from", BAD, () -> x.seal(0, -1, 6));
        check.thrown("seal: no square to", BAD, () -> x.seal(0, 6, 36));
        check.thrown("seal: not legal", NOT_NOW, () -> x.seal(0, 6, 18));
        due("seal: none is adjourned by a throw", 'u', x.stateOf(0));
        due("seal: one game", 1, x.seal(0, 6, 12));
        due("seal: adjourned", 'a', x.stateOf(0));
        due("seal: no move is made", 0, x.moves(0));
        due("seal: nothing on the board", '.', x.pieceAt(0, 12));
        due("seal: the same side moves", true, x.isWhite(0));
        check.thrown("seal: twice", NOT_NOW, () -> x.seal(0, 7, 13));
        check.thrown("seal: twice, no square", BAD, () -> x.seal(0, 7, 36));
        x.begin(0, 1);
        due("seal: two games", 2, x.seal(1, 7, 13));
        x.annul(0);
        x.begin(0, 1);
        due("seal: an annulled one does not count", 2, x.seal(2, 7, 13));
        check.thrown("seal: annulled", NOT_NOW, () -> x.seal(0, 7, 13));
        x.begin(0, 1);
        x.resign(3);
        check.thrown("seal: final", NOT_NOW, () -> x.seal(3, 7, 13));
    }

    private static void open() {
        Gambitvault x = withGame();
        check.thrown("open: no game", NO_GAME, () -> x.open(1, 0));
        check.thrown("open: under way", NOT_NOW, () -> x.open(0, 0));
        check.thrown("open: under way, no player", NOT_NOW, () -> x.open(0, 7));
        x.seal(0, 6, 12);
        check.thrown("open: no player", NONE, () -> x.open(0, 2));
        check.thrown("open: no member", NONE, () -> x.open(0, LOW));
        due("open: the first", false, x.open(0, 1));
        check.thrown("open: twice", NONE, () -> x.open(0, 1));
        due("open: not made yet", 0, x.moves(0));
        due("open: the second", true, x.open(0, 0));
        due("open: made", 612, x.moveAt(0, 0));
        due("open: on the board", 'P', x.pieceAt(0, 12));
        due("open: under way again", 'u', x.stateOf(0));
        check.thrown("open: opened", NOT_NOW, () -> x.open(0, 0));
        x.seal(0, 24, 18);
        due("open: a second sealed move is opened anew", false, x.open(0, 0));
        due("open: by the other one, too", true, x.open(0, 1));
        due("open: both made", 2, x.moves(0));
        x.seal(0, 7, 13);
        x.annul(0);
        check.thrown("open: annulled", NOT_NOW, () -> x.open(0, 0));
        x.begin(4, 5);
        play(x, 1, first(Lines.WHITE_MATES, 4));
        x.seal(1, 20, 24);
        due("open: no end yet", false, x.open(1, 4));
        due("open: a sealed mate", true, x.open(1, 5));
        due("open: it ends the game", 'f', x.stateOf(1));
        due("open: white has won", 2, x.result(1));
        due("open: ratings are paid out", 1516.0, x.rating(4));
    }

    private static void offer() {
        Gambitvault x = withGame();
        check.thrown("offer: no game", NO_GAME, () -> x.offer(1));
        due("offer: the first", true, x.offer(0));
        due("offer: the second", false, x.offer(0));
        play(x, 0, 612);
        due("offer: a move takes it back", true, x.offer(0));
        x.seal(0, 24, 18);
        check.thrown("offer: adjourned", NOT_NOW, () -> x.offer(0));
        x.open(0, 0);
        x.open(0, 1);
        check.thrown("offer: a sealed move takes it back", NONE, () -> x.take(0));
        due("offer: new behind it", true, x.offer(0));
        x.annul(0);
        check.thrown("offer: annulled", NOT_NOW, () -> x.offer(0));
        offerWhereLost();
    }

    private static void offerWhereLost() {
        Gambitvault x = new Gambitvault();
        x.begin(0, 1);
        play(x, 0, 112);
        due("offer: before it is lost", true, x.offer(0));
        blackWinsBehind(x, 112, 3);
        check.thrown("offer: lost for white, black moves", BAD_STATE, () -> x.offer(0));
        due("offer: what was offered can be taken", 4, x.take(0));
        x.begin(0, 1);
        play(x, 4, 112);
        due("offer: with the draw among them", 'u', x.stateOf(4));
        check.thrown("offer: still lost", BAD_STATE, () -> x.offer(4));
        x.annul(1);
        x.annul(2);
        due("offer: two finals only", true, x.offer(4));
        x.resign(4);
        check.thrown("offer: final", NOT_NOW, () -> x.offer(4));
        Gambitvault y = withGame();
        play(y, 0, 112);
        whiteWinsBehind(y, 112, 3);
        check.thrown("offer: lost for black", BAD_STATE, () -> y.offer(0));
        check.thrown("offer: by a throw, none", NONE, () -> y.take(0));
        y.annul(1);
        due("offer: the first", true, y.offer(0));
    }

    /** Games in which white resigns behind a first move and one of black. */
    private static void blackWinsBehind(Gambitvault x, int firstMove, int games) {
        for (int i = 0; i < games; i++) {
            int game = x.begin(2, 3);
            play(x, game, firstMove, 2418);
            x.resign(game);
        }
    }

    /** Games in which black resigns behind a first move. */
    private static void whiteWinsBehind(Gambitvault x, int firstMove, int games) {
        for (int i = 0; i < games; i++) {
            int game = x.begin(2, 3);
            play(x, game, firstMove);
            x.resign(game);
        }
    }

    private static void take() {
        Gambitvault x = withGame();
        check.thrown("take: no game", NO_GAME, () -> x.take(-1));
        check.thrown("take: none offered", NONE, () -> x.take(0));
        x.offer(0);
        play(x, 0, 612);
        check.thrown("take: moved since", NONE, () -> x.take(0));
        x.offer(0);
        x.seal(0, 24, 18);
        check.thrown("take: sealed since", NOT_NOW, () -> x.take(0));
        x.open(0, 1);
        x.open(0, 0);
        check.thrown("take: sealed and made since", NONE, () -> x.take(0));
        x.offer(0);
        due("take: one is final", 1, x.take(0));
        due("take: drawn", 1, x.result(0));
        check.thrown("take: final", NOT_NOW, () -> x.take(0));
        x.begin(0, 1);
        x.offer(1);
        due("take: two are final", 2, x.take(1));
        x.annul(0);
        x.begin(0, 1);
        x.offer(2);
        due("take: an annulled one is not final", 2, x.take(2));
        check.thrown("take: annulled", NOT_NOW, () -> x.take(0));
    }

    private static void resign() {
        Gambitvault x = new Gambitvault();
        check.thrown("resign: no game", NO_GAME, () -> x.resign(0));
        x.begin(7, 3);
        due("resign: white does", 3, x.resign(0));
        due("resign: black has won", 0, x.result(0));
        check.thrown("resign: final", NOT_NOW, () -> x.resign(0));
        x.begin(7, 3);
        play(x, 1, 612);
        due("resign: black does", 7, x.resign(1));
        due("resign: white has won", 2, x.result(1));
        x.begin(7, 3);
        x.seal(2, 6, 12);
        check.thrown("resign: adjourned", NOT_NOW, () -> x.resign(2));
        x.annul(2);
        check.thrown("resign: annulled", NOT_NOW, () -> x.resign(2));
    }

    private static void annul() {
        Gambitvault x = withGame();
        check.thrown("annul: no game", NO_GAME, () -> x.annul(1));
        due("annul: under way", 'u', x.annul(0));
        check.thrown("annul: twice", NOT_NOW, () -> x.annul(0));
        x.begin(0, 1);
        play(x, 1, 112);
        x.seal(1, 24, 18);
        due("annul: adjourned", 'a', x.annul(1));
        due("annul: the sealed move is not made", 1, x.moves(1));
        x.begin(0, 1);
        play(x, 2, 112);
        x.resign(2);
        due("annul: its position is in the index", 1, x.seen(1));
        due("annul: final", 'f', x.annul(2));
        due("annul: its position is in the index no more", 0, x.seen(1));
        due("annul: nor is its result", 0, x.points(1) + x.finals(1));
        due("annul: its rating is taken back", 1500.0, x.rating(0));
        due("annul: state", 'x', x.stateOf(2));
        due("annul: the board stays", 'N', x.pieceAt(2, 12));
        due("annul: the moves stay", 112, x.moveAt(2, 0));
    }

    private static void stateOfAndResult() {
        Gambitvault x = withGame();
        check.thrown("stateOf: no game", NO_GAME, () -> x.stateOf(1));
        check.thrown("result: no game", NO_GAME, () -> x.result(1));
        due("stateOf: under way", 'u', x.stateOf(0));
        check.thrown("result: under way", NONE, () -> x.result(0));
        x.seal(0, 6, 12);
        due("stateOf: adjourned", 'a', x.stateOf(0));
        check.thrown("result: adjourned", NONE, () -> x.result(0));
        x.open(0, 0);
        x.open(0, 1);
        x.resign(0);
        due("stateOf: final", 'f', x.stateOf(0));
        due("result: white has won", 2, x.result(0));
        x.annul(0);
        due("stateOf: annulled", 'x', x.stateOf(0));
        check.thrown("result: annulled", NONE, () -> x.result(0));
        x.begin(0, 1);
        x.offer(1);
        x.take(1);
        due("result: drawn", 1, x.result(1));
        x.begin(0, 1);
        x.resign(2);
        due("result: black has won", 0, x.result(2));
    }

    private static void isWhiteAndMoves() {
        Gambitvault x = withGame();
        check.thrown("isWhite: no game", NO_GAME, () -> x.isWhite(1));
        check.thrown("moves: no game", NO_GAME, () -> x.moves(12));
        due("isWhite: at the beginning", true, x.isWhite(0));
        due("moves: at the beginning", 0, x.moves(0));
        play(x, 0, 612);
        due("isWhite: behind one move", false, x.isWhite(0));
        due("moves: one", 1, x.moves(0));
        x.seal(0, 24, 18);
        due("isWhite: sealed", false, x.isWhite(0));
        due("moves: sealed", 1, x.moves(0));
        x.annul(0);
        due("isWhite: annulled", false, x.isWhite(0));
        x.begin(0, 1);
        play(x, 1, Lines.WHITE_MATES);
        due("isWhite: final", false, x.isWhite(1));
        due("moves: final", 5, x.moves(1));
    }

    private static void moveAt() {
        Gambitvault x = withGame();
        check.thrown("moveAt: no game", NO_GAME, () -> x.moveAt(1, -1));
        check.thrown("moveAt: none yet", NONE, () -> x.moveAt(0, 0));
        play(x, 0, 612, 3120, 6);
        due("moveAt: the first", 612, x.moveAt(0, 0));
        due("moveAt: the second", 3120, x.moveAt(0, 1));
        due("moveAt: from the square 0", 6, x.moveAt(0, 2));
        check.thrown("moveAt: behind the last", NONE, () -> x.moveAt(0, 3));
        check.thrown("moveAt: -1", NONE, () -> x.moveAt(0, -1));
        check.thrown("moveAt: highest", NONE, () -> x.moveAt(0, HIGH));
        check.thrown("moveAt: lowest", NONE, () -> x.moveAt(0, LOW));
        x.seal(0, 24, 18);
        check.thrown("moveAt: the sealed move", NONE, () -> x.moveAt(0, 3));
    }

    private static void pieceAt() {
        Gambitvault x = withGame();
        check.thrown("pieceAt: no game", NO_GAME, () -> x.pieceAt(1, 36));
        check.thrown("pieceAt: -1", BAD, () -> x.pieceAt(0, -1));
        check.thrown("pieceAt: 36", BAD, () -> x.pieceAt(0, 36));
        check.thrown("pieceAt: highest", BAD, () -> x.pieceAt(0, HIGH));
        due("pieceAt: the beginning", "RNKQNRPPPPPP............pppppprnkqnr", board(x, 0));
        play(x, 0, Lines.WHITE_MATES);
        due("pieceAt: behind moves", "R.KQNRPPPPPP............Nppppp.rkqnr", board(x, 0));
    }

    private static void quiet() {
        Gambitvault x = withGame();
        check.thrown("quiet: no game", NO_GAME, () -> x.quiet(1));
        due("quiet: at the beginning", 0, x.quiet(0));
        play(x, 0, 112);
        due("quiet: a knight", 1, x.quiet(0));
        play(x, 0, 3120);
        due("quiet: both sides together", 2, x.quiet(0));
        play(x, 0, 1220);
        due("quiet: taken", 0, x.quiet(0));
        play(x, 0, 3031);
        due("quiet: from there on", 1, x.quiet(0));
        x.seal(0, 6, 12);
        due("quiet: sealed", 1, x.quiet(0));
        x.open(0, 0);
        x.open(0, 1);
        due("quiet: a pawn, by opening", 0, x.quiet(0));
        x.annul(0);
        due("quiet: annulled", 0, x.quiet(0));
    }

    private static void repeats() {
        Gambitvault x = withGame();
        check.thrown("repeats: no game", NO_GAME, () -> x.repeats(1));
        due("repeats: at the beginning", 1, x.repeats(0));
        play(x, 0, first(Lines.THRICE, 4));
        due("repeats: twice", 2, x.repeats(0));
        play(x, 0, first(Lines.THRICE, 4));
        due("repeats: three times", 3, x.repeats(0));
        x.annul(0);
        due("repeats: annulled", 3, x.repeats(0));
        x.begin(0, 1);
        due("repeats: in the game alone", 1, x.repeats(1));
        play(x, 1, 612, 2822, 1218, 2620, 6, 3423, 612, 2334, 1200);
        due("repeats: the same squares, the other side moves", 1, x.repeats(1));
    }

    private static void seen() {
        Gambitvault x = withGame();
        check.thrown("seen: no game", NO_GAME, () -> x.seen(1));
        due("seen: the beginning came by no move", 0, x.seen(0));
        play(x, 0, 112);
        due("seen: in one game", 1, x.seen(0));
        x.begin(0, 1);
        due("seen: not in the index", 0, x.seen(1));
        play(x, 1, 112);
        due("seen: in two games", 2, x.seen(1));
        play(x, 0, 3423, 1201, 2334);
        due("seen: the beginning came by a move", 1, x.seen(0));
        play(x, 0, 112);
        due("seen: each game once", 2, x.seen(0));
        x.begin(0, 1);
        due("seen: another game's beginning", 1, x.seen(2));
        play(x, 2, 417);
        due("seen: mirrored, king and queen are not", 1, x.seen(2));
        x.annul(1);
        due("seen: not in what is annulled", 1, x.seen(0));
        due("seen: an annulled one's position", 1, x.seen(1));
    }

    private static void mirroredPositions() {
        Gambitvault x = withGame();
        play(x, 0, first(Lines.TO_THE_MIRROR, 11));
        due("mirror: before it", 1, x.seen(0));
        play(x, 0, 2733);
        due("mirror: one game, once", 1, x.seen(0));
        due("mirror: the game's own repetition tells them apart", 1, x.repeats(0));
        x.begin(2, 3);
        play(x, 1, first(Lines.TO_THE_MIRROR, 4));
        due("mirror: the one position", 2, x.seen(1));
        due("mirror: the other position", 2, x.seen(0));
        due("mirror: back, not drawn", 'u', play(x, 0, 309, 3327, 908, 2726, 203, 3233, 802, 2632));
        due("mirror: back, the second time", 2, x.repeats(0));
        x.resign(0);
        due("mirror: one final game", 1, x.finals(1));
        play(x, 1, 612, 3426);
        x.resign(1);
        x.begin(4, 5);
        play(x, 2, Lines.TO_THE_MIRROR);
        due("mirror: final games of both", 2, x.finals(2));
        x.annul(0);
        due("mirror: annulled", 2, x.seen(2));
        due("mirror: annulled, finals", 1, x.finals(2));
        due("mirror: sound", true, x.isSound());
    }

    private static void finalsAndPoints() {
        Gambitvault x = withGame();
        check.thrown("finals: no game", NO_GAME, () -> x.finals(1));
        check.thrown("points: no game", NO_GAME, () -> x.points(1));
        play(x, 0, 112);
        due("finals: under way", 0, x.finals(0));
        due("points: under way", 0, x.points(0));
        whiteWinsBehind(x, 112, 2);
        due("finals: two", 2, x.finals(0));
        due("points: two won", 4, x.points(0));
        blackWinsBehind(x, 112, 1);
        due("finals: a lost one counts", 3, x.finals(0));
        due("points: a lost one adds nothing", 4, x.points(0));
        x.offer(0);
        x.take(0);
        due("finals: the own game", 4, x.finals(0));
        due("points: a draw", 5, x.points(0));
        x.annul(1);
        due("finals: without the annulled one", 3, x.finals(0));
        due("points: without the annulled one", 3, x.points(0));
        due("finals: of an annulled game's position", 3, x.finals(1));
        x.begin(0, 1);
        due("finals: at the beginning", 0, x.finals(4));
        play(x, 4, Lines.THRICE);
        due("finals: each game once", 4, x.finals(0));
        x.begin(0, 1);
        due("finals: the beginning came by moves", 1, x.finals(5));
        due("points: the beginning came by moves", 1, x.points(5));
    }

    private static void isLost() {
        Gambitvault x = withGame();
        check.thrown("isLost: no game", NO_GAME, () -> x.isLost(1, true));
        play(x, 0, 112);
        blackWinsBehind(x, 112, 2);
        due("isLost: two games are too few", false, x.isLost(0, true));
        blackWinsBehind(x, 112, 1);
        due("isLost: for white", true, x.isLost(0, true));
        due("isLost: not for black", false, x.isLost(0, false));
        whiteWinsBehind(x, 112, 1);
        due("isLost: a mean of just 0.5", false, x.isLost(0, true));
        whiteWinsBehind(x, 112, 3);
        due("isLost: in between", false, x.isLost(0, false));
        x.annul(1);
        x.annul(2);
        due("isLost: a mean of 1.6", true, x.isLost(0, false));
        due("isLost: not for white", false, x.isLost(0, true));
        x.annul(4);
        due("isLost: a mean of just 1.5", false, x.isLost(0, false));
        x.annul(3);
        due("isLost: three games won", true, x.isLost(0, false));
        x.annul(5);
        due("isLost: two games won", false, x.isLost(0, false));
    }

    private static void rating() {
        Gambitvault x = new Gambitvault();
        check.thrown("rating: -1", BAD, () -> x.rating(-1));
        check.thrown("rating: 10", BAD, () -> x.rating(10));
        check.thrown("rating: highest", BAD, () -> x.rating(HIGH));
        due("rating: at first", 1500.0, x.rating(9));
        x.begin(0, 9);
        x.resign(0);
        due("rating: white has lost", 1484.0, x.rating(0));
        due("rating: black has won", 1516.0, x.rating(9));
        x.begin(9, 0);
        play(x, 1, 112);
        x.offer(1);
        x.take(1);
        due("rating: the better one draws", 1516.0 - 32.0 * 0.02, x.rating(9));
        due("rating: the worse one draws", 1484.0 + 32.0 * 0.02, x.rating(0));
        due("rating: of others", 1500.0, x.rating(4));
    }

    private static void ratingsAnew() {
        Gambitvault x = new Gambitvault();
        x.begin(0, 1);
        x.begin(2, 0);
        x.begin(1, 2);
        x.resign(2);
        x.offer(0);
        x.take(0);
        play(x, 1, 112);
        x.resign(1);
        Gambitvault y = new Gambitvault();
        y.begin(1, 2);
        y.resign(0);
        y.begin(2, 0);
        play(y, 1, 112);
        y.resign(1);
        x.annul(0);
        for (int member = 0; member < 3; member++) {
            due("ratings anew, in the order of the ends: " + member, y.rating(member), x.rating(member));
        }
        x.annul(2);
        due("ratings anew: one game is left, white", 1516.0, x.rating(2));
        due("ratings anew: one game is left, black", 1484.0, x.rating(0));
        x.annul(1);
        due("ratings anew: none is left", 1500.0, x.rating(2));
    }

    private static void copyAndCopied() {
        Gambitvault x = withGame();
        check.thrown("copy: no game", NO_GAME, () -> x.copy(1));
        check.thrown("copied: no game", NO_GAME, () -> x.copied(1));
        due("copy: nothing", 0, x.copy(0));
        play(x, 0, 612, 2418);
        due("copied: nothing", 0, x.copied(0));
        due("copy: two moves", 2, x.copy(0));
        due("copied: two moves", 2, x.copied(0));
        due("copy: nothing new", 0, x.copy(0));
        play(x, 0, 713);
        due("copied: as it was", 2, x.copied(0));
        due("copy: one more", 1, x.copy(0));
        x.damage(0, 1);
        due("copy: what is gone", 2, x.copy(0));
        play(x, 0, 2519);
        x.annul(0);
        due("copy: annulled", 1, x.copy(0));
        due("copied: annulled", 4, x.copied(0));
        x.begin(0, 1);
        x.seal(1, 6, 12);
        due("copy: not the sealed move", 0, x.copy(1));
    }

    private static void gapsThatHeal() {
        Gambitvault x = withGame();
        play(x, 0, 612);
        x.seal(0, 24, 18);
        x.copy(0);
        x.open(0, 0);
        due("heal: the gap stays until both have opened", true, x.hasGap(0));
        x.open(0, 1);
        due("heal: no gap", false, x.hasGap(0));
        due("heal: the copy gets the move", 2, x.copied(0));
        due("heal: whole", true, x.isWhole(0));
        play(x, 0, 713);
        x.copy(0);
        x.seal(0, 25, 19);
        due("heal: copied before it was sealed", false, x.hasGap(0));
        x.open(0, 0);
        x.open(0, 1);
        due("heal: no gap gets nothing", 3, x.copied(0));
        x.seal(0, 1, 14);
        x.copy(0);
        x.damage(0, 2);
        x.open(0, 0);
        x.open(0, 1);
        due("heal: damaged, it gets nothing", 2, x.copied(0));
        x.begin(2, 3);
        x.seal(1, 6, 12);
        x.copy(1);
        x.annul(1);
        due("heal: annulling changes no copy", true, x.hasGap(1));
        due("heal: not whole", false, x.isWhole(1));
        x.copy(1);
        due("heal: copied when annulled", false, x.hasGap(1));
        due("heal: whole when annulled", true, x.isWhole(1));
    }

    private static void hasGapAndIsWhole() {
        Gambitvault x = withGame();
        check.thrown("hasGap: no game", NO_GAME, () -> x.hasGap(1));
        check.thrown("isWhole: no game", NO_GAME, () -> x.isWhole(-1));
        due("hasGap: at first", false, x.hasGap(0));
        due("isWhole: no moves", true, x.isWhole(0));
        play(x, 0, 612);
        due("isWhole: a move is missing", false, x.isWhole(0));
        x.copy(0);
        due("isWhole: copied", true, x.isWhole(0));
        x.seal(0, 24, 18);
        due("isWhole: sealed is not made", true, x.isWhole(0));
        x.copy(0);
        due("hasGap: copied when adjourned", true, x.hasGap(0));
        due("isWhole: not with a gap", false, x.isWhole(0));
        x.damage(0, 1);
        due("hasGap: damaged", false, x.hasGap(0));
        due("isWhole: damaged, with all moves", true, x.isWhole(0));
        x.damage(0, 0);
        due("isWhole: damaged", false, x.isWhole(0));
    }

    private static void damage() {
        Gambitvault x = withGame();
        check.thrown("damage: no game", NO_GAME, () -> x.damage(1, -1));
        check.thrown("damage: -1", BAD, () -> x.damage(0, -1));
        check.thrown("damage: lowest", BAD, () -> x.damage(0, LOW));
        due("damage: an empty copy", 0, x.damage(0, 0));
        play(x, 0, 612, 2418, 713);
        x.copy(0);
        due("damage: keeps more than there are", 0, x.damage(0, HIGH));
        due("damage: keeps all", 0, x.damage(0, 3));
        due("damage: one is gone", 1, x.damage(0, 2));
        due("damage: two are left", 2, x.copied(0));
        due("damage: two are gone", 2, x.damage(0, 0));
        due("damage: the game keeps its moves", 3, x.moves(0));
        x.annul(0);
        x.copy(0);
        due("damage: annulled", 3, x.damage(0, 0));
    }

    private static void gapsAndGames() {
        Gambitvault x = new Gambitvault();
        due("games: none", 0, x.games());
        for (int i = 0; i < 3; i++) {
            x.begin(i, i + 1);
            x.seal(i, 6, 12);
            due("gaps: not copied", i, x.gaps());
            x.copy(i);
            due("gaps: copied", i + 1, x.gaps());
        }
        x.annul(0);
        due("gaps: an annulled one's copy", 3, x.gaps());
        due("games: annulled ones, too", 3, x.games());
        x.damage(1, 0);
        due("gaps: damaged", 2, x.gaps());
        x.open(2, 2);
        x.open(2, 3);
        due("gaps: healed", 1, x.gaps());
        x.copy(0);
        due("gaps: copied when annulled", 0, x.gaps());
    }

    private static void allMoves() {
        Gambitvault x = withGame();
        due("allMoves: none", 0L, x.allMoves());
        play(x, 0, 612, 2418);
        x.begin(2, 3);
        play(x, 1, Lines.WHITE_MATES);
        due("allMoves: two games", 7L, x.allMoves());
        x.seal(0, 7, 13);
        due("allMoves: sealed", 7L, x.allMoves());
        x.annul(1);
        due("allMoves: annulled", 7L, x.allMoves());
    }

    private static void drawnShare() {
        Gambitvault x = withGame();
        check.thrown("drawnShare: none is final", ArithmeticException.class, () -> x.drawnShare());
        x.resign(0);
        due("drawnShare: none is drawn", 0.0f, x.drawnShare());
        x.begin(0, 1);
        x.offer(1);
        x.take(1);
        due("drawnShare: one of two", 0.5f, x.drawnShare());
        x.begin(0, 1);
        x.resign(2);
        due("drawnShare: one of three", 1.0f / 3.0f, x.drawnShare());
        x.annul(0);
        x.annul(2);
        due("drawnShare: all", 1.0f, x.drawnShare());
        x.annul(1);
        check.thrown("drawnShare: all annulled", ArithmeticException.class, () -> x.drawnShare());
    }

    private static void meanRating() {
        Gambitvault x = new Gambitvault();
        due("meanRating: at first", 1500.0, x.meanRating());
        for (int i = 0; i < 11; i++) {
            x.begin(i * 7 % 10, (i * 7 + 3) % 10);
            x.resign(i);
            double sum = 0.0;
            for (int member = 0; member < 10; member++) {
                sum += x.rating(member);
            }
            due("meanRating: from member 0 on", sum / 10.0, x.meanRating());
        }
    }

    private static void isSound() {
        Gambitvault x = withGame();
        due("isSound: a game without moves", true, x.isSound());
        play(x, 0, Lines.TO_THE_MIRROR);
        due("isSound: with positions", true, x.isSound());
        x.seal(0, 6, 12);
        x.copy(0);
        due("isSound: with a gap", true, x.isSound());
        x.open(0, 0);
        x.open(0, 1);
        due("isSound: healed", true, x.isSound());
        x.resign(0);
        due("isSound: paid out", true, x.isSound());
        x.begin(1, 0);
        play(x, 1, Lines.THRICE);
        x.annul(0);
        due("isSound: annulled", true, x.isSound());
        x.damage(0, 3);
        due("isSound: damaged", true, x.isSound());
    }

    private static void throwingChangesNothing() {
        Gambitvault x = withGame();
        play(x, 0, 612, 2418);
        x.copy(0);
        x.seal(0, 7, 13);
        x.begin(2, 3);
        x.offer(1);
        String before = all(x);
        Object[] thrown = {
            Check.answerOf(() -> x.begin(1, 1)), Check.answerOf(() -> x.move(0, 7, 13)),
            Check.answerOf(() -> x.move(1, 7, 14)), Check.answerOf(() -> x.move(1, 7, 36)),
            Check.answerOf(() -> x.seal(0, 7, 13)), Check.answerOf(() -> x.seal(1, 7, 14)),
            Check.answerOf(() -> x.open(0, 2)), Check.answerOf(() -> x.open(1, 2)),
            Check.answerOf(() -> x.offer(0)), Check.answerOf(() -> x.take(0)),
            Check.answerOf(() -> x.resign(0)), Check.answerOf(() -> x.result(0)),
            Check.answerOf(() -> x.damage(0, -1)), Check.answerOf(() -> x.copy(2)),
            Check.answerOf(() -> x.annul(2)), Check.answerOf(() -> x.drawnShare())};
        for (Object answer : thrown) {
            due("throws", true, answer.toString().startsWith("throws."));
        }
        due("what throws changes nothing", before, all(x));
        due("the draw is still offered", 1, x.take(1));
        due("nobody has opened", false, x.open(0, 0));
        due("now both have", true, x.open(0, 1));
    }
}
