/** The document's "Boards": each sentence of it that names a boundary, by a run of calls of its own. */
public final class BoardEdgesTest {
    private static final Check check = new Check();

    public static void main(String[] args) {
        theBeginning();
        kings();
        queensAndRooks();
        knights();
        pawnsAhead();
        pawnsAtASlant();
        pawnsAtTheEdges();
        theLastRow();
        neitherCastlingNorDoubleStep();
        theOwnKing();
        aKingThatCouldBeTaken();
        noLegalMove();
        theThirdComing();
        fortyMoves();
        check.end("BoardEdgesTest");
    }

    private static Script on(String sentence) {
        return new Script(check, "Boards: " + sentence).row("begin 0 1 = 0");
    }

    private static void theBeginning() {
        Script run = on("36 squares, from 0 at the lower left to 35, and what stands there");
        String pieces = "RNKQNRPPPPPP............pppppprnkqnr";
        for (int square = 0; square < 36; square++) {
            run.row("pieceAt 0 " + square + " = " + pieces.charAt(square));
        }
        run.row("pieceAt 0 -1 = throws.IllegalArgumentException");
        run.row("pieceAt 0 36 = throws.IllegalArgumentException");
        on("white moves first").rows("""
                isWhite 0 = true
                isLegal 0 24 18 = false
                move 0 24 18 = throws.UnsupportedOperationException
                move 0 6 12 = u
                isWhite 0 = false
                move 0 7 13 = throws.UnsupportedOperationException
                move 0 24 18 = u
                isWhite 0 = true
                """);
    }

    private static void kings() {
        on("kings go in any of eight directions: white's").rows("""
                line 0 814 3120 318 2009 208 901 1420 112 712 2923 = u
                pieceAt 0 8 = K
                isLegal 0 8 1 = true
                isLegal 0 8 2 = true
                isLegal 0 8 3 = true
                isLegal 0 8 7 = true
                isLegal 0 8 9 = true
                isLegal 0 8 13 = true
                isLegal 0 8 14 = true
                isLegal 0 8 15 = true
                """);
        on("kings go one square: white's does not go two, nor as a knight").rows("""
                line 0 814 3120 318 2009 208 901 1420 112 712 2923 = u
                isLegal 0 8 22 = false
                isLegal 0 8 16 = false
                isLegal 0 8 19 = false
                isLegal 0 8 21 = false
                isLegal 0 8 8 = false
                """);
        on("kings go in any of eight directions: black's").rows("""
                line 0 112 2620 1225 3226 2533 2014 3322 2722 1117 3118 1 = u
                pieceAt 0 26 = k
                isLegal 0 26 19 = true
                isLegal 0 26 20 = true
                isLegal 0 26 21 = true
                isLegal 0 26 25 = true
                isLegal 0 26 27 = true
                isLegal 0 26 31 = true
                isLegal 0 26 32 = true
                isLegal 0 26 33 = true
                """);
        on("kings go one square: black's does not go two, nor as a knight").rows("""
                line 0 112 2620 1225 3226 2533 2014 3322 2722 1117 3118 1 = u
                isLegal 0 26 12 = false
                isLegal 0 26 16 = false
                isLegal 0 26 13 = false
                isLegal 0 26 15 = false
                isLegal 0 26 34 = false
                """);
    }

    private static void queensAndRooks() {
        on("queens go any number of free squares: five along a row").rows("""
                line 0 814 2418 318 2923 = u
                isLegal 0 18 19 = true
                isLegal 0 18 22 = true
                isLegal 0 18 23 = true
                isLegal 0 18 12 = true
                isLegal 0 18 6 = false
                isLegal 0 18 24 = true
                isLegal 0 18 30 = true
                isLegal 0 18 13 = true
                isLegal 0 18 8 = true
                isLegal 0 18 3 = true
                isLegal 0 18 25 = true
                isLegal 0 18 32 = false
                isLegal 0 18 26 = false
                isLegal 0 18 31 = false
                move 0 18 23 = u
                """);
        on("queens go any number of free squares: four up, and take, but not what is their own").rows("""
                line 0 915 2620 1520 2720 = u
                isLegal 0 3 9 = true
                isLegal 0 3 27 = true
                isLegal 0 3 33 = true
                isLegal 0 3 2 = false
                isLegal 0 3 4 = false
                isLegal 0 3 8 = false
                isLegal 0 3 16 = false
                move 0 3 33 = u
                """);
        on("queens go any number of free squares: five along a row, the other way").rows("""
                line 0 1016 2721 1621 3421 317 2822 = u
                isLegal 0 17 16 = true
                isLegal 0 17 12 = true
                isLegal 0 17 18 = false
                isLegal 0 17 24 = false
                isLegal 0 17 23 = true
                isLegal 0 17 29 = true
                isLegal 0 17 35 = false
                isLegal 0 17 22 = true
                isLegal 0 17 27 = false
                isLegal 0 17 3 = true
                """);
        on("queens go any number of free squares: five at a slant, up to the left").rows("""
                line 0 1016 2923 310 2316 1116 3505 1005 2519 = u
                isLegal 0 5 10 = true
                isLegal 0 5 25 = true
                isLegal 0 5 30 = true
                isLegal 0 5 6 = false
                isLegal 0 5 18 = false
                move 0 5 30 = u
                """);
        on("queens go any number of free squares: five at a slant, up to the right").rows("""
                line 0 114 3421 1427 2108 308 3327 829 2706 2928 3511 6 1110 624 3118 2425 1807 = u
                line 0 2807 1009 2526 3226 209 3000 700 2632 = u
                isLegal 0 0 7 = true
                isLegal 0 0 28 = true
                isLegal 0 0 35 = true
                isLegal 0 0 30 = true
                isLegal 0 0 3 = true
                isLegal 0 0 4 = false
                isLegal 0 0 11 = false
                """);
        on("rooks go straight ones: five up, and not at a slant").rows("""
                line 0 612 2519 1219 2419 = u
                isLegal 0 0 6 = true
                isLegal 0 0 24 = true
                isLegal 0 0 30 = true
                isLegal 0 0 7 = false
                isLegal 0 0 1 = false
                move 0 0 30 = u
                """);
        on("rooks go straight ones: five along a row").rows("""
                line 0 612 2519 1219 2419 12 2620 = u
                isLegal 0 12 17 = true
                isLegal 0 12 16 = true
                isLegal 0 12 18 = true
                isLegal 0 12 30 = true
                isLegal 0 12 0 = true
                isLegal 0 12 19 = false
                isLegal 0 12 11 = false
                isLegal 0 12 5 = false
                move 0 12 17 = u
                """);
        on("rooks go straight ones: five along a row, the other way").rows("""
                line 0 1117 2822 1722 2922 517 2418 = u
                isLegal 0 17 12 = true
                isLegal 0 17 18 = false
                isLegal 0 17 35 = true
                isLegal 0 17 5 = true
                isLegal 0 17 24 = false
                move 0 17 12 = u
                """);
    }

    private static void knights() {
        on("knights go as in chess: white's eight leaps").rows("""
                line 0 112 3118 1220 1807 915 703 = u
                isLegal 0 20 7 = true
                isLegal 0 20 9 = true
                isLegal 0 20 12 = true
                isLegal 0 20 16 = true
                isLegal 0 20 24 = true
                isLegal 0 20 28 = true
                isLegal 0 20 31 = true
                isLegal 0 20 33 = true
                """);
        on("knights go as in chess: white's no other way").rows("""
                line 0 112 3118 1220 1807 915 703 = u
                isLegal 0 20 26 = false
                isLegal 0 20 27 = false
                isLegal 0 20 18 = false
                isLegal 0 20 22 = false
                isLegal 0 20 32 = false
                isLegal 0 20 34 = false
                isLegal 0 20 30 = false
                """);
        on("knights go as in chess: black's eight leaps").rows("""
                line 0 114 3118 1427 1814 415 2519 1 = u
                isLegal 0 14 1 = true
                isLegal 0 14 3 = true
                isLegal 0 14 6 = true
                isLegal 0 14 10 = true
                isLegal 0 14 18 = true
                isLegal 0 14 22 = true
                isLegal 0 14 25 = true
                isLegal 0 14 27 = true
                """);
        on("knights go as in chess: not round the edge").rows("""
                line 0 417 3118 = u
                isLegal 0 17 25 = false
                isLegal 0 17 30 = false
                isLegal 0 17 13 = false
                isLegal 0 17 21 = true
                isLegal 0 17 28 = true
                line 0 612 = u
                isLegal 0 18 10 = false
                isLegal 0 18 5 = false
                isLegal 0 18 22 = false
                isLegal 0 18 7 = true
                isLegal 0 18 14 = true
                """);
    }

    private static void pawnsAhead() {
        on("pawns go one free square forward: up for white").rows("""
                isLegal 0 6 12 = true
                isLegal 0 6 18 = false
                isLegal 0 6 7 = false
                isLegal 0 6 0 = false
                line 0 612 2721 = u
                isLegal 0 12 18 = true
                isLegal 0 12 6 = false
                isLegal 0 12 11 = false
                isLegal 0 12 13 = false
                """);
        on("pawns go one free square forward: down for black").rows("""
                line 0 612 = u
                isLegal 0 27 21 = true
                isLegal 0 27 15 = false
                line 0 2721 713 = u
                isLegal 0 21 15 = true
                isLegal 0 21 27 = false
                isLegal 0 21 20 = false
                isLegal 0 21 22 = false
                """);
        on("pawns go one free square: none that is taken up, by whomever").rows("""
                line 0 112 3120 = u
                isLegal 0 6 12 = false
                isLegal 0 7 13 = true
                line 0 814 = u
                isLegal 0 26 20 = false
                line 0 2721 713 2115 = u
                isLegal 0 9 15 = false
                line 0 1117 = u
                isLegal 0 15 9 = false
                """);
    }

    private static void pawnsAtASlant() {
        on("pawns take one square forward at a slant: white's, both ways").rows("""
                line 0 814 2519 915 2721 = u
                isLegal 0 14 19 = true
                isLegal 0 14 21 = true
                isLegal 0 15 20 = false
                isLegal 0 15 22 = false
                isLegal 0 14 20 = true
                move 0 14 21 = u
                pieceAt 0 21 = P
                pieceAt 0 14 = .
                """);
        on("pawns take one square forward at a slant: black's, both ways").rows("""
                line 0 713 2620 915 = u
                isLegal 0 20 13 = true
                isLegal 0 20 15 = true
                isLegal 0 20 14 = true
                isLegal 0 27 20 = false
                isLegal 0 27 22 = false
                move 0 20 13 = u
                pieceAt 0 13 = p
                pieceAt 0 20 = .
                """);
        on("pawns take forward only: not back at a slant, nor two rows off").rows("""
                line 0 814 2721 1420 2115 = u
                isLegal 0 20 15 = false
                isLegal 0 20 25 = true
                isLegal 0 14 25 = false
                isLegal 0 20 31 = false
                line 0 612 = u
                isLegal 0 15 20 = false
                isLegal 0 15 8 = false
                isLegal 0 15 10 = true
                isLegal 0 15 3 = false
                """);
        on("pawns take at a slant: not what is their own, and no free square").rows("""
                line 0 713 2519 = u
                isLegal 0 6 13 = false
                isLegal 0 8 13 = false
                isLegal 0 9 14 = false
                isLegal 0 9 16 = false
                line 0 1016 = u
                isLegal 0 24 19 = false
                isLegal 0 26 19 = false
                isLegal 0 27 20 = false
                isLegal 0 27 22 = false
                """);
    }

    private static void pawnsAtTheEdges() {
        on("pawns at the left edge: white's does not take round it").rows("""
                line 0 612 2923 713 2317 = u
                pieceAt 0 17 = p
                isLegal 0 12 17 = false
                """);
        on("pawns at the right edge: white's does not take round it").rows("""
                line 0 1117 2822 = u
                pieceAt 0 24 = p
                isLegal 0 17 24 = false
                isLegal 0 17 22 = true
                """);
        on("pawns at the left edge: black's does not take round it").rows("""
                line 0 713 2418 814 = u
                pieceAt 0 11 = P
                isLegal 0 18 11 = false
                isLegal 0 18 13 = true
                """);
        on("pawns at the right edge: black's does not take round it").rows("""
                line 0 612 2923 1218 2822 713 = u
                pieceAt 0 18 = P
                isLegal 0 23 18 = false
                """);
    }

    private static void theLastRow() {
        on("a pawn that comes to the last row becomes a queen: white's, straight").rows("""
                line 0 1117 3118 1723 3421 2328 3031 = u
                pieceAt 0 28 = P
                move 0 28 34 = u
                pieceAt 0 34 = Q
                pieceAt 0 28 = .
                """);
        on("a pawn that comes to the last row becomes a queen: black's, straight").rows("""
                line 0 814 2923 415 2317 1523 1710 2327 = u
                pieceAt 0 10 = p
                move 0 10 4 = u
                pieceAt 0 4 = q
                """);
        on("a pawn that comes to the last row becomes a queen: white's, by taking").rows("""
                line 0 713 2620 1320 3118 2027 3231 2734 = u
                pieceAt 0 34 = Q
                """);
        on("a pawn that comes to the last row becomes a queen: black's, by taking").rows("""
                line 0 114 2923 201 2317 302 1710 915 1005 = u
                pieceAt 0 5 = q
                """);
        on("a pawn on the row before the last one stays a pawn: white's").rows("""
                line 0 713 2620 1320 3118 2027 = u
                pieceAt 0 27 = P
                """);
        on("a pawn on the row before the last one stays a pawn: black's").rows("""
                line 0 814 2923 415 2317 1523 1710 = u
                pieceAt 0 10 = p
                """);
        on("a pawn that became a queen goes as one").rows("""
                line 0 713 2620 1320 3118 2027 3231 2734 1807 = u
                isLegal 0 34 33 = true
                isLegal 0 34 28 = true
                isLegal 0 34 27 = true
                isLegal 0 34 20 = true
                isLegal 0 34 29 = true
                isLegal 0 34 26 = false
                """);
        on("only a pawn becomes a queen: a rook and knights stay what they are").rows("""
                line 0 612 2519 1219 2419 30 = u
                pieceAt 0 30 = R
                begin 0 1 = 1
                line 1 112 3423 1220 2334 2031 = u
                pieceAt 1 31 = N
                begin 0 1 = 2
                line 2 612 3120 713 2007 814 703 = u
                pieceAt 2 3 = n
                """);
        on("a pawn that comes to the last row by a sealed move becomes a queen").rows("""
                line 0 1117 3118 1723 3421 2328 3031 = u
                seal 0 28 34 = 1
                pieceAt 0 28 = P
                open 0 0 = false
                open 0 1 = true
                pieceAt 0 34 = Q
                quiet 0 = 0
                """);
    }

    private static void neitherCastlingNorDoubleStep() {
        on("there is no double step: white's, from the beginning").rows("""
                isLegal 0 8 20 = false
                isLegal 0 8 14 = true
                move 0 8 20 = throws.UnsupportedOperationException
                line 0 612 = u
                isLegal 0 26 14 = false
                isLegal 0 26 20 = true
                move 0 26 14 = throws.UnsupportedOperationException
                """);
        on("there is no castling: white's king").rows("""
                line 0 814 2418 318 2923 417 2822 = u
                pieceAt 0 5 = R
                pieceAt 0 3 = .
                pieceAt 0 4 = .
                isLegal 0 2 3 = true
                isLegal 0 2 4 = false
                isLegal 0 2 5 = false
                line 0 112 2721 = u
                isLegal 0 2 1 = true
                isLegal 0 2 0 = false
                """);
        on("there is no castling: black's king").rows("""
                line 0 612 2620 713 3326 814 3423 915 = u
                pieceAt 0 35 = r
                isLegal 0 32 33 = true
                isLegal 0 32 34 = false
                isLegal 0 32 35 = false
                """);
    }

    private static void theOwnKing() {
        on("the own king cannot be taken: what stands before it stays, but may go along").rows("""
                line 0 814 2418 318 2620 1830 = u
                isInCheck 0 = false
                isLegal 0 31 18 = false
                isLegal 0 31 12 = false
                isLegal 0 34 21 = true
                move 0 31 18 = throws.UnsupportedOperationException
                """);
        on("the own king cannot be taken: by taking, by stepping between, by going").rows("""
                line 0 814 3118 318 2620 1820 = u
                isInCheck 0 = true
                isLegal 0 25 20 = true
                isLegal 0 27 20 = true
                isLegal 0 33 26 = true
                isLegal 0 32 31 = true
                isLegal 0 32 26 = false
                isLegal 0 24 19 = false
                isLegal 0 28 22 = false
                move 0 28 22 = throws.UnsupportedOperationException
                move 0 32 31 = u
                """);
        on("the own king cannot be taken: nor by a knight").rows("""
                line 0 415 3423 1528 = u
                isInCheck 0 = true
                legalMoves 0 = 1
                isLegal 0 33 28 = true
                isLegal 0 32 33 = false
                """);
        on("the own king cannot be taken: by the other king").rows("""
                line 0 814 2519 208 3225 815 = u
                isLegal 0 25 20 = false
                isLegal 0 25 32 = true
                move 0 25 20 = throws.UnsupportedOperationException
                """);
        on("the own king cannot be taken: even by what would leave its own king open").rows("""
                line 0 814 2519 208 3225 1420 2518 = u
                isLegal 0 8 14 = false
                isLegal 0 8 13 = false
                isLegal 0 8 15 = true
                isLegal 0 8 2 = true
                """);
    }

    private static void aKingThatCouldBeTaken() {
        on("a pawn bears at a slant: one square before the king it does not").rows("""
                line 0 814 2822 1420 3423 = u
                isInCheck 0 = false
                line 0 2027 = u
                isInCheck 0 = true
                """);
        on("a pawn bears at a slant: straight before black's king it does not").rows("""
                line 0 814 2519 1419 2418 1926 = u
                pieceAt 0 26 = P
                pieceAt 0 32 = k
                isInCheck 0 = false
                """);
        on("a pawn bears at a slant: straight before white's king it does not").rows("""
                line 0 713 2620 612 2013 1218 1308 = u
                pieceAt 0 8 = p
                pieceAt 0 2 = K
                isInCheck 0 = false
                """);
        on("a king beside nothing that bears on it could not be taken").row("isInCheck 0 = false");
    }

    private static void noLegalMove() {
        on("no legal one, and the king could be taken: white has won").rows("""
                line 0 112 3120 1220 3031 = u
                move 0 20 24 = w
                isInCheck 0 = true
                legalMoves 0 = 0
                stateOf 0 = f
                result 0 = 2
                """);
        on("no legal one, and the king could be taken: black has won").rows("""
                line 0 713 2620 207 3326 714 = u
                move 0 26 21 = b
                isInCheck 0 = true
                legalMoves 0 = 0
                result 0 = 0
                """);
        on("one legal one, and the king could be taken: it goes on").rows("""
                line 0 415 3423 1528 = u
                isInCheck 0 = true
                legalMoves 0 = 1
                stateOf 0 = u
                """);
        on("no legal one, and the king could not be taken: black has none").rows("""
                line 0 814 3118 318 3031 1824 2721 2431 3227 3133 2722 915 2223 1420 2519 = u
                move 0 7 13 = d
                isInCheck 0 = false
                legalMoves 0 = 0
                stateOf 0 = f
                result 0 = 1
                """);
        on("no legal one, and the king could not be taken: white has none").rows("""
                line 0 814 2620 318 2518 112 3312 712 3421 1421 2821 415 2015 1015 3533 1 3334 131 = u
                line 0 3031 504 3404 208 3233 1117 2923 = d
                isWhite 0 = true
                isInCheck 0 = false
                legalMoves 0 = 0
                result 0 = 1
                """);
        on("one legal one, and the king could not be taken: it goes on").rows("""
                line 0 814 3118 318 3031 1824 2721 2431 3227 3133 2722 915 2223 1420 2519 = u
                move 0 1 9 = u
                isInCheck 0 = false
                legalMoves 0 = 1
                stateOf 0 = u
                """);
        on("it ends by a sealed move, too: a king that could be taken").rows("""
                line 0 112 3120 1220 3031 = u
                seal 0 20 24 = 1
                open 0 1 = false
                stateOf 0 = a
                open 0 0 = true
                stateOf 0 = f
                result 0 = 2
                """);
        on("it ends by a sealed move, too: a king that could not").rows("""
                line 0 814 3118 318 3031 1824 2721 2431 3227 3133 2722 915 2223 1420 2519 = u
                seal 0 7 13 = 1
                open 0 1 = false
                open 0 0 = true
                stateOf 0 = f
                result 0 = 1
                """);
    }

    private static void theThirdComing() {
        on("it is drawn if the position has come for the 3rd time, that at the beginning counted").rows("""
                repeats 0 = 1
                line 0 112 3423 1201 2334 = u
                repeats 0 = 2
                stateOf 0 = u
                line 0 112 3423 1201 = u
                move 0 23 34 = d
                repeats 0 = 3
                stateOf 0 = f
                result 0 = 1
                """);
        on("it is drawn if the position has come for the 3rd time, not one of the beginning").rows("""
                line 0 612 3423 114 2334 1401 = u
                repeats 0 = 2
                stateOf 0 = u
                line 0 3423 114 2334 = u
                move 0 14 1 = d
                repeats 0 = 3
                """);
        on("a position is all squares and the side that moves: with the other side it is another one").rows("""
                line 0 612 2822 1218 2620 = u
                repeats 0 = 1
                line 0 6 3423 612 2334 1200 = u
                repeats 0 = 1
                line 0 3423 6 2334 612 3423 1200 2334 = u
                repeats 0 = 2
                stateOf 0 = u
                line 0 6 3423 612 2334 1200 = u
                repeats 0 = 2
                line 0 3423 6 2334 612 3423 1200 = u
                move 0 23 34 = d
                repeats 0 = 3
                quiet 0 = 24
                """);
        on("the 3rd time by a sealed move").rows("""
                line 0 112 3423 1201 2334 112 3423 1201 = u
                seal 0 23 34 = 1
                repeats 0 = 2
                open 0 0 = false
                open 0 1 = true
                stateOf 0 = f
                repeats 0 = 3
                """);
        on("the 3rd time in this game, whatever came in others").rows("""
                line 0 112 3423 1201 2334 = u
                begin 0 1 = 1
                line 1 112 3423 1201 2334 = u
                repeats 1 = 2
                repeats 0 = 2
                stateOf 1 = u
                """);
    }

    private static void fortyMoves() {
        String quiet = """
                line 0 417 3120 1016 2721 310 3031 114 3423 504 2334 1422 3327 1 2733 1015 3327 2233 2722 = u
                line 0 405 3227 1514 2223 203 2322 1412 3132 1219 2031 1704 2223 3322 2317 302 1723 203 = u
                line 0 2317 302 3118 100 3231 2233 3423 = u
                quiet 0 = 38
                move 0 2 1 = u
                quiet 0 = 39
                stateOf 0 = u
                """;
        on("it is drawn behind 40 moves in a row of both sides together: not behind 39").rows(quiet + """
                move 0 31 30 = d
                quiet 0 = 40
                result 0 = 1
                repeats 0 = 1
                """);
        on("40 moves in a row without a pawn moved: the 40th moves one").rows(quiet + """
                move 0 28 22 = u
                quiet 0 = 0
                stateOf 0 = u
                """);
        on("40 moves in a row without a piece taken: the 40th takes one").rows(quiet + """
                move 0 17 16 = u
                quiet 0 = 0
                move 0 1 2 = u
                quiet 0 = 1
                """);
        on("else it is drawn: who has won with the 40th move has won").rows(quiet + """
                move 0 17 3 = b
                quiet 0 = 40
                result 0 = 0
                """);
        on("the 40th move is a sealed one").rows(quiet + """
                seal 0 31 30 = 1
                quiet 0 = 39
                open 0 1 = false
                open 0 0 = true
                stateOf 0 = f
                result 0 = 1
                quiet 0 = 40
                """);
    }
}
