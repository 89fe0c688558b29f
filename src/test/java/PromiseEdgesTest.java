/** Each promise's own words, promise by promise: the least and the most that it takes and answers. */
public final class PromiseEdgesTest {
    private static final Check check = new Check();

    public static void main(String[] args) {
        newObject();
        begin();
        move();
        isLegal();
        legalMovesAndIsInCheck();
        seal();
        open();
        offerAndTake();
        resign();
        annulAndStateOf();
        result();
        isWhiteAndMoves();
        moveAt();
        pieceAt();
        quietAndRepeats();
        seenFinalsPoints();
        isLost();
        copyAndCopied();
        hasGapAndIsWhole();
        damage();
        gapsGamesAllMoves();
        drawnShare();
        isSound();
        everyGameNumber();
        check.end("PromiseEdgesTest");
    }

    private static Script on(String sentence) {
        return new Script(check, "Promise " + sentence);
    }

    private static void newObject() {
        on("1: a club without games").rows("""
                games = 0
                allMoves = 0
                gaps = 0
                isSound = true
                meanRating = 1500.0
                rating 0 = 1500.0
                rating 9 = 1500.0
                drawnShare = throws.ArithmeticException
                stateOf 0 = throws.IndexOutOfBoundsException
                begin 0 1 = 0
                """);
    }

    private static void begin() {
        on("2: white and black, 0 to 9").rows("""
                begin 0 9 = 0
                begin 9 0 = 1
                begin -1 9 = throws.IllegalArgumentException
                begin 0 10 = throws.IllegalArgumentException
                begin 10 0 = throws.IllegalArgumentException
                begin 9 -1 = throws.IllegalArgumentException
                begin 0 0 = throws.IllegalArgumentException
                begin 9 9 = throws.IllegalArgumentException
                games = 2
                """);
    }

    private static void move() {
        on("3: from the square 0").row("begin 0 1 = 0").row("line 0 612 2418 6 = u").row("pieceAt 0 6 = R");
        on("3: to the square 35").row("begin 0 1 = 0").row("line 0 915 2620 1521 2418 2128 3423 2835 = u")
                .row("pieceAt 0 35 = Q");
        on("3: from the square 35").row("begin 0 1 = 0").row("line 0 612 2923 1218 3529 = u").row("pieceAt 0 29 = r");
        on("3: to the square 0").row("begin 0 1 = 0").row("line 0 612 2418 6 3024 600 = u").row("pieceAt 0 0 = R");
        on("3: squares that there are not").rows("""
                begin 0 1 = 0
                move 0 -1 0 = throws.IllegalArgumentException
                move 0 0 -1 = throws.IllegalArgumentException
                move 0 36 35 = throws.IllegalArgumentException
                move 0 35 36 = throws.IllegalArgumentException
                move 0 0 35 = throws.UnsupportedOperationException
                move 0 35 0 = throws.UnsupportedOperationException
                """);
        on("3: not under way").rows("""
                begin 0 1 = 0
                begin 0 1 = 1
                begin 0 1 = 2
                seal 0 6 12 = 1
                resign 1 = 1
                annul 2 = u
                move 0 6 12 = throws.UnsupportedOperationException
                move 1 6 12 = throws.UnsupportedOperationException
                move 2 6 12 = throws.UnsupportedOperationException
                allMoves = 0
                """);
    }

    private static void isLegal() {
        on("4: squares 0 and 35, -1 and 36").rows("""
                begin 0 1 = 0
                isLegal 0 0 35 = false
                isLegal 0 35 0 = false
                isLegal 0 -1 0 = throws.IllegalArgumentException
                isLegal 0 0 -1 = throws.IllegalArgumentException
                isLegal 0 36 0 = throws.IllegalArgumentException
                isLegal 0 0 36 = throws.IllegalArgumentException
                """);
        on("4: whatever the state of the game").rows("""
                begin 0 1 = 0
                begin 0 1 = 1
                begin 0 1 = 2
                seal 0 6 12 = 1
                resign 1 = 1
                annul 2 = u
                isLegal 0 6 12 = true
                isLegal 1 6 12 = true
                isLegal 2 6 12 = true
                isLegal 0 7 13 = true
                isLegal 0 24 18 = false
                isLegal 1 24 18 = false
                isLegal 2 24 18 = false
                isLegal 1 36 0 = throws.IllegalArgumentException
                """);
    }

    private static void legalMovesAndIsInCheck() {
        on("5: whatever the state of the game").rows("""
                begin 0 1 = 0
                legalMoves 0 = 10
                seal 0 6 12 = 1
                legalMoves 0 = 10
                open 0 0 = false
                legalMoves 0 = 10
                open 0 1 = true
                legalMoves 0 = 10
                line 0 2418 = u
                legalMoves 0 = 9
                resign 0 = 1
                legalMoves 0 = 9
                annul 0 = f
                legalMoves 0 = 9
                """);
        on("5: none, and one").rows("""
                begin 0 1 = 0
                line 0 415 3423 1528 = u
                legalMoves 0 = 1
                begin 0 1 = 1
                line 1 112 3120 1220 3031 2024 = w
                legalMoves 1 = 0
                annul 1 = f
                legalMoves 1 = 0
                """);
        on("5: a move to the square 0, and one to the square 35, are counted").rows("""
                begin 0 1 = 0
                line 0 612 2418 6 3024 = u
                isLegal 0 6 0 = true
                legalMoves 0 = 9
                begin 0 1 = 1
                line 1 612 2923 1218 3529 713 = u
                isLegal 1 29 35 = true
                legalMoves 1 = 10
                """);
        on("6: whatever the state of the game").rows("""
                begin 0 1 = 0
                line 0 415 3423 = u
                isInCheck 0 = false
                seal 0 15 28 = 1
                isInCheck 0 = false
                open 0 0 = false
                open 0 1 = true
                isInCheck 0 = true
                seal 0 33 28 = 1
                isInCheck 0 = true
                annul 0 = a
                isInCheck 0 = true
                begin 0 1 = 1
                line 1 415 3423 1528 = u
                resign 1 = 0
                isInCheck 1 = true
                """);
    }

    private static void seal() {
        Script run = on("7: the number of games that are adjourned, 1 to 12");
        for (int game = 0; game < 12; game++) {
            run.row("begin 0 1 = " + game).row("seal " + game + " 6 12 = " + (game + 1));
        }
        run.rows("""
                open 0 0 = false
                open 0 1 = true
                seal 0 24 18 = 12
                annul 1 = a
                annul 2 = a
                open 0 0 = false
                open 0 1 = true
                seal 0 7 13 = 10
                """);
        on("7: squares 0 and 35, -1 and 36").rows("""
                begin 0 1 = 0
                line 0 612 2923 = u
                seal 0 -1 6 = throws.IllegalArgumentException
                seal 0 0 -1 = throws.IllegalArgumentException
                seal 0 36 29 = throws.IllegalArgumentException
                seal 0 35 36 = throws.IllegalArgumentException
                seal 0 0 35 = throws.UnsupportedOperationException
                seal 0 35 29 = throws.UnsupportedOperationException
                seal 0 0 6 = 1
                open 0 0 = false
                open 0 1 = true
                seal 0 35 29 = 1
                open 0 0 = false
                open 0 1 = true
                pieceAt 0 29 = r
                """);
        on("7: not under way").rows("""
                begin 0 1 = 0
                begin 0 1 = 1
                begin 0 1 = 2
                seal 0 6 12 = 1
                resign 1 = 1
                annul 2 = u
                seal 0 7 13 = throws.UnsupportedOperationException
                seal 1 6 12 = throws.UnsupportedOperationException
                seal 2 6 12 = throws.UnsupportedOperationException
                open 0 0 = false
                open 0 1 = true
                moveAt 0 0 = 612
                """);
    }

    private static void open() {
        on("8: whether the move is made by that, members 0 and 9").rows("""
                begin 9 0 = 0
                open 0 9 = throws.UnsupportedOperationException
                seal 0 6 12 = 1
                open 0 -1 = throws.NoSuchElementException
                open 0 10 = throws.NoSuchElementException
                open 0 0 = false
                open 0 9 = true
                open 0 9 = throws.UnsupportedOperationException
                """);
        on("8: the member does not play it, but the next game").rows("""
                begin 0 1 = 0
                begin 2 3 = 1
                seal 0 6 12 = 1
                seal 1 6 12 = 2
                open 0 2 = throws.NoSuchElementException
                open 1 0 = throws.NoSuchElementException
                open 0 0 = false
                open 1 2 = false
                """);
    }

    private static void offerAndTake() {
        on("9: whether one was not offered already").rows("""
                begin 0 1 = 0
                offer 0 = true
                offer 0 = false
                line 0 612 = u
                offer 0 = true
                line 0 2418 = u
                offer 0 = true
                offer 0 = false
                """);
        Script run = on("10: how many games are final, 1 to 12");
        for (int game = 0; game < 12; game++) {
            run.row("begin 0 1 = " + game).row("offer " + game + " = true").row("take " + game + " = " + (game + 1));
        }
        on("10: how many games are final: won, lost and drawn ones, no others").rows("""
                begin 0 1 = 0
                begin 0 1 = 1
                begin 0 1 = 2
                begin 0 1 = 3
                begin 0 1 = 4
                begin 0 1 = 5
                line 0 112 3120 1220 3031 2024 = w
                resign 1 = 1
                seal 2 6 12 = 1
                annul 3 = u
                resign 4 = 1
                annul 4 = f
                offer 5 = true
                take 5 = 3
                """);
    }

    private static void resign() {
        on("11: the member who has won, 0 and 9").rows("""
                begin 9 0 = 0
                resign 0 = 0
                begin 0 9 = 1
                resign 1 = 9
                begin 9 0 = 2
                line 2 112 = u
                resign 2 = 9
                begin 0 9 = 3
                line 3 112 = u
                resign 3 = 0
                """);
        on("11: not under way").rows("""
                begin 0 1 = 0
                begin 0 1 = 1
                begin 0 1 = 2
                seal 0 6 12 = 1
                resign 1 = 1
                annul 2 = u
                resign 0 = throws.UnsupportedOperationException
                resign 1 = throws.UnsupportedOperationException
                resign 2 = throws.UnsupportedOperationException
                """);
    }

    private static void annulAndStateOf() {
        on("12 and 13: the state before, and behind").rows("""
                begin 0 1 = 0
                stateOf 0 = u
                annul 0 = u
                stateOf 0 = x
                begin 0 1 = 1
                seal 1 6 12 = 1
                stateOf 1 = a
                annul 1 = a
                stateOf 1 = x
                begin 0 1 = 2
                line 2 112 3120 1220 3031 2024 = w
                stateOf 2 = f
                annul 2 = f
                stateOf 2 = x
                annul 2 = throws.UnsupportedOperationException
                """);
    }

    private static void result() {
        on("14: 2, 1 or 0, and none if it is not final").rows("""
                begin 0 1 = 0
                result 0 = throws.NoSuchElementException
                offer 0 = true
                result 0 = throws.NoSuchElementException
                take 0 = 1
                result 0 = 1
                begin 0 1 = 1
                seal 1 1 12 = 1
                result 1 = throws.NoSuchElementException
                open 1 0 = false
                open 1 1 = true
                result 1 = throws.NoSuchElementException
                resign 1 = 0
                result 1 = 2
                begin 0 1 = 2
                resign 2 = 1
                result 2 = 0
                annul 0 = f
                annul 2 = f
                result 0 = throws.NoSuchElementException
                result 2 = throws.NoSuchElementException
                """);
    }

    private static void isWhiteAndMoves() {
        on("15 and 16: whatever the state of the game").rows("""
                begin 0 1 = 0
                isWhite 0 = true
                moves 0 = 0
                line 0 612 = u
                isWhite 0 = false
                moves 0 = 1
                seal 0 24 18 = 1
                isWhite 0 = false
                moves 0 = 1
                open 0 0 = false
                open 0 1 = true
                isWhite 0 = true
                moves 0 = 2
                resign 0 = 1
                isWhite 0 = true
                moves 0 = 2
                annul 0 = f
                isWhite 0 = true
                moves 0 = 2
                """);
    }

    private static void moveAt() {
        on("17: the index, from 0, to one less than the moves").rows("""
                begin 0 1 = 0
                moveAt 0 0 = throws.NoSuchElementException
                line 0 612 2923 = u
                moveAt 0 -1 = throws.NoSuchElementException
                moveAt 0 0 = 612
                moveAt 0 1 = 2923
                moveAt 0 2 = throws.NoSuchElementException
                moveAt 0 lowest = throws.NoSuchElementException
                moveAt 0 highest = throws.NoSuchElementException
                line 0 6 3529 600 = u
                moveAt 0 2 = 6
                moveAt 0 3 = 3529
                moveAt 0 4 = 600
                moveAt 0 5 = throws.NoSuchElementException
                """);
        on("17: a sealed move was not made").rows("""
                begin 0 1 = 0
                seal 0 6 12 = 1
                moveAt 0 0 = throws.NoSuchElementException
                open 0 0 = false
                moveAt 0 0 = throws.NoSuchElementException
                open 0 1 = true
                moveAt 0 0 = 612
                """);
    }

    private static void pieceAt() {
        on("18: squares 0 and 35, -1 and 36").rows("""
                begin 0 1 = 0
                pieceAt 0 0 = R
                pieceAt 0 35 = r
                pieceAt 0 -1 = throws.IllegalArgumentException
                pieceAt 0 36 = throws.IllegalArgumentException
                pieceAt 0 lowest = throws.IllegalArgumentException
                pieceAt 0 highest = throws.IllegalArgumentException
                pieceAt 0 2 = K
                pieceAt 0 3 = Q
                pieceAt 0 4 = N
                pieceAt 0 11 = P
                pieceAt 0 12 = .
                pieceAt 0 24 = p
                pieceAt 0 31 = n
                pieceAt 0 32 = k
                pieceAt 0 33 = q
                """);
        on("18: what was left and what was taken").rows("""
                begin 0 1 = 0
                line 0 112 3120 1220 = u
                pieceAt 0 1 = .
                pieceAt 0 12 = .
                pieceAt 0 20 = N
                pieceAt 0 31 = .
                """);
    }

    private static void quietAndRepeats() {
        on("19: how many in a row: 0, 1, and 0 again").rows("""
                begin 0 1 = 0
                quiet 0 = 0
                line 0 612 = u
                quiet 0 = 0
                line 0 3423 = u
                quiet 0 = 1
                line 0 6 = u
                quiet 0 = 2
                line 0 2418 = u
                quiet 0 = 0
                line 0 600 = u
                quiet 0 = 1
                line 0 2334 = u
                quiet 0 = 2
                line 0 713 = u
                quiet 0 = 0
                line 0 1813 = u
                quiet 0 = 0
                """);
        on("20: how often the present position has come: 1, 2, 3").rows("""
                begin 0 1 = 0
                repeats 0 = 1
                line 0 112 = u
                repeats 0 = 1
                line 0 3423 1201 2334 = u
                repeats 0 = 2
                line 0 112 = u
                repeats 0 = 2
                line 0 3423 1201 2334 = d
                repeats 0 = 3
                annul 0 = f
                repeats 0 = 3
                """);
        on("20: how often it has come, not by a sealed move").rows("""
                begin 0 1 = 0
                line 0 112 3423 1201 = u
                repeats 0 = 1
                seal 0 23 34 = 1
                repeats 0 = 1
                open 0 0 = false
                open 0 1 = true
                repeats 0 = 2
                """);
    }

    private static void seenFinalsPoints() {
        on("21 to 23: at the present position of a game, whatever its state").rows("""
                begin 0 1 = 0
                begin 0 1 = 1
                seen 0 = 0
                finals 0 = 0
                points 0 = 0
                line 0 112 = u
                line 1 112 = u
                seal 1 24 18 = 1
                seen 1 = 2
                resign 0 = 0
                finals 1 = 1
                points 1 = 2
                annul 1 = a
                seen 1 = 1
                finals 1 = 1
                points 1 = 2
                annul 0 = f
                seen 0 = 0
                finals 0 = 0
                points 0 = 0
                """);
    }

    private static void isLost() {
        Script run = on("24: whether the present position is lost, of a game in whatever state");
        for (int game = 0; game < 5; game++) {
            run.row("begin 0 1 = " + game).row("line " + game + " 112 = u").row("isLost " + game + " 0 = false");
        }
        run.row("resign 0 = 0").row("resign 1 = 0").row("isLost 3 0 = false").row("resign 2 = 0");
        run.row("annul 3 = u").row("seal 4 24 18 = 1");
        for (int game = 0; game < 5; game++) {
            run.row("isLost " + game + " 0 = true").row("isLost " + game + " 1 = false");
        }
        run.row("begin 0 1 = 5").row("isLost 5 0 = false").row("isLost 5 1 = false");
    }

    private static void copyAndCopied() {
        on("26 and 27: how many moves the copy got, and has").rows("""
                begin 0 1 = 0
                copy 0 = 0
                copied 0 = 0
                line 0 612 = u
                copy 0 = 1
                copied 0 = 1
                copy 0 = 0
                copied 0 = 1
                line 0 2418 713 2519 = u
                copy 0 = 3
                copied 0 = 4
                damage 0 1 = 3
                copied 0 = 1
                copy 0 = 3
                copied 0 = 4
                """);
    }

    private static void hasGapAndIsWhole() {
        on("28 and 29: in each state").rows("""
                begin 0 1 = 0
                hasGap 0 = false
                isWhole 0 = true
                seal 0 6 12 = 1
                copy 0 = 0
                hasGap 0 = true
                isWhole 0 = false
                annul 0 = a
                hasGap 0 = true
                isWhole 0 = false
                copy 0 = 0
                hasGap 0 = false
                isWhole 0 = true
                begin 0 1 = 1
                resign 1 = 1
                hasGap 1 = false
                isWhole 1 = true
                """);
    }

    private static void damage() {
        on("30: how many are gone: all, some, none").rows("""
                begin 0 1 = 0
                damage 0 0 = 0
                damage 0 highest = 0
                damage 0 -1 = throws.IllegalArgumentException
                damage 0 lowest = throws.IllegalArgumentException
                line 0 612 2418 713 2519 = u
                copy 0 = 4
                damage 0 5 = 0
                damage 0 4 = 0
                damage 0 3 = 1
                damage 0 1 = 2
                damage 0 0 = 1
                copied 0 = 0
                """);
    }

    private static void gapsGamesAllMoves() {
        on("31: how many copies have a gap").rows("""
                gaps = 0
                begin 0 1 = 0
                seal 0 6 12 = 1
                gaps = 0
                copy 0 = 0
                gaps = 1
                damage 0 0 = 0
                gaps = 0
                """);
        on("32: the number of games, also annulled and final").rows("""
                games = 0
                begin 0 1 = 0
                annul 0 = u
                games = 1
                begin 0 1 = 1
                resign 1 = 1
                games = 2
                """);
        Script run = on("33: the sum of the moves that were made in all games").row("allMoves = 0");
        for (int game = 0; game < 12; game++) {
            run.row("begin 0 1 = " + game).row("line " + game + " 112 = u").row("allMoves = " + (2 * game + 1));
            run.row("line " + game + " 2418 = u").row("allMoves = " + (2 * game + 2));
        }
        run.rows("""
                annul 0 = u
                resign 1 = 1
                allMoves = 24
                seal 2 6 12 = throws.UnsupportedOperationException
                seal 2 7 13 = 1
                allMoves = 24
                open 2 0 = false
                allMoves = 24
                open 2 1 = true
                allMoves = 25
                """);
    }

    private static void drawnShare() {
        on("34: none is final").rows("""
                drawnShare = throws.ArithmeticException
                begin 0 1 = 0
                drawnShare = throws.ArithmeticException
                seal 0 6 12 = 1
                drawnShare = throws.ArithmeticException
                annul 0 = a
                drawnShare = throws.ArithmeticException
                begin 0 1 = 1
                resign 1 = 1
                drawnShare = 0.0
                annul 1 = f
                drawnShare = throws.ArithmeticException
                """);
        on("34: the only final one is drawn").rows("""
                begin 0 1 = 0
                offer 0 = true
                take 0 = 1
                drawnShare = 1.0
                """);
        Script run = on("34: their number divided by that of final games, both converted to float");
        run.row("begin 0 1 = 0").row("offer 0 = true").row("take 0 = 1");
        for (int game = 1; game < 12; game++) {
            run.row("begin 0 1 = " + game).row("resign " + game + " = 1");
            run.row("drawnShare = " + 1.0f / (game + 1));
        }
    }

    private static void isSound() {
        Script run = on("36: it holds behind whatever is done").row("isSound = true");
        for (String row : new String[] {
            "begin 0 1 = 0", "begin 1 2 = 1", "begin 2 0 = 2", "line 0 112 3423 1201 2334 = u", "line 1 112 = u",
            "copy 0 = 4", "damage 0 2 = 2", "seal 1 24 18 = 1", "copy 1 = 1", "open 1 1 = false", "open 1 2 = true",
            "resign 0 = 1", "offer 2 = true", "take 2 = 2", "annul 0 = f", "resign 1 = 2", "annul 1 = f",
            "copy 1 = 0", "annul 2 = f", "begin 3 4 = 3", "line 3 112 3120 1220 3031 2024 = w"}) {
            run.row(row).row("isSound = true");
        }
    }

    /** Of 12 games, the numbers 0 and 11 are games for each method that takes one, and -1 and 12 are none. */
    private static void everyGameNumber() {
        for (String name : Calls.OF_A_GAME) {
            Script run = on("3 to 30: the number of the game, 0 to 11: " + name);
            for (int game = 0; game < 12; game++) {
                run.row("begin 0 1 = " + game);
            }
            for (int game : new int[] {-1, 12, Integer.MIN_VALUE, Integer.MAX_VALUE}) {
                check.due(name + " of " + game, "throws.IndexOutOfBoundsException", run.answer(name, game, 0, 0));
            }
            for (int game = 0; game < 12; game++) {
                check.due(name + " of " + game, false,
                        run.answer(name, game, 0, 0).equals("throws.IndexOutOfBoundsException"));
            }
        }
    }
}
