/** The document's "Games": each sentence of it that names a boundary, by a run of calls of its own. */
public final class GameEdgesTest {
    private static final Check check = new Check();

    public static void main(String[] args) {
        twelveGames();
        twoMembers();
        states();
        sealing();
        opening();
        offering();
        offersThatLapse();
        taking();
        resigning();
        annulling();
        check.end("GameEdgesTest");
    }

    private static Script on(String sentence) {
        return new Script(check, "Games: " + sentence);
    }

    private static void twelveGames() {
        Script run = on("at most 12 games are numbered from 0: the last one, and one more");
        for (int game = 0; game < 12; game++) {
            run.row("games = " + game).row("begin 0 1 = " + game).row("stateOf " + game + " = u");
            run.row("stateOf " + (game + 1) + " = throws.IndexOutOfBoundsException");
        }
        run.rows("""
                begin 0 1 = throws.IllegalStateException
                games = 12
                stateOf 12 = throws.IndexOutOfBoundsException
                move 11 6 12 = u
                moves 0 = 0
                moves 11 = 1
                """);
        Script spent = on("at most 12 games, those that are final and annulled counted");
        for (int game = 0; game < 12; game++) {
            spent.row("begin 0 1 = " + game).row((game % 2 == 0 ? "resign " : "annul ") + game);
        }
        spent.row("begin 0 1 = throws.IllegalStateException").row("games = 12");
    }

    private static void twoMembers() {
        for (int white = -1; white <= 10; white++) {
            Script run = on("between two of the members 0 to 9: white is " + white);
            int begun = 0;
            for (int black = -1; black <= 10; black++) {
                boolean isOne = white >= 0 && white <= 9 && black >= 0 && black <= 9 && white != black;
                run.row("begin " + white + " " + black + " = "
                        + (isOne ? String.valueOf(begun) : "throws.IllegalArgumentException"));
                begun += isOne ? 1 : 0;
            }
            run.row("games = " + begun);
        }
        on("between two of the members 0 to 9: far from them").rows("""
                begin lowest 0 = throws.IllegalArgumentException
                begin 0 lowest = throws.IllegalArgumentException
                begin highest 0 = throws.IllegalArgumentException
                begin 0 highest = throws.IllegalArgumentException
                begin lowest lowest = throws.IllegalArgumentException
                games = 0
                """);
        on("two members can play two games at once, and change sides").rows("""
                begin 3 7 = 0
                begin 3 7 = 1
                begin 7 3 = 2
                resign 0 = 7
                stateOf 1 = u
                resign 2 = 3
                """);
    }

    private static void states() {
        on("a game is under way, adjourned, final or annulled").rows("""
                begin 0 1 = 0
                stateOf 0 = u
                seal 0 6 12 = 1
                stateOf 0 = a
                open 0 0 = false
                stateOf 0 = a
                open 0 1 = true
                stateOf 0 = u
                resign 0 = 0
                stateOf 0 = f
                annul 0 = f
                stateOf 0 = x
                """);
    }

    private static void sealing() {
        on("the side that moves can seal: white, then black, not the other one's").rows("""
                begin 0 1 = 0
                seal 0 24 18 = throws.UnsupportedOperationException
                seal 0 6 12 = 1
                open 0 1 = false
                open 0 0 = true
                seal 0 7 13 = throws.UnsupportedOperationException
                seal 0 24 18 = 1
                open 0 1 = false
                open 0 0 = true
                moveAt 0 0 = 612
                moveAt 0 1 = 2418
                """);
        on("a sealed move has to be legal").rows("""
                begin 0 1 = 0
                seal 0 6 18 = throws.UnsupportedOperationException
                seal 0 12 18 = throws.UnsupportedOperationException
                seal 0 6 6 = throws.UnsupportedOperationException
                stateOf 0 = u
                line 0 814 2418 318 2620 1830 = u
                seal 0 31 18 = throws.UnsupportedOperationException
                stateOf 0 = u
                seal 0 34 21 = 1
                """);
        on("no move is made until both have opened it").rows("""
                begin 0 1 = 0
                line 0 112 = u
                seal 0 24 18 = 1
                moves 0 = 1
                isWhite 0 = false
                pieceAt 0 24 = p
                pieceAt 0 18 = .
                quiet 0 = 1
                repeats 0 = 1
                seen 0 = 1
                allMoves = 1
                moveAt 0 1 = throws.NoSuchElementException
                open 0 0 = false
                moves 0 = 1
                isWhite 0 = false
                pieceAt 0 18 = .
                allMoves = 1
                move 0 24 18 = throws.UnsupportedOperationException
                """);
        on("a game is adjourned, others are not").rows("""
                begin 0 1 = 0
                begin 0 1 = 1
                seal 0 6 12 = 1
                move 1 7 13 = u
                stateOf 0 = a
                stateOf 1 = u
                seal 1 24 18 = 2
                open 1 0 = false
                open 1 1 = true
                stateOf 0 = a
                moves 0 = 0
                """);
    }

    private static void opening() {
        on("both members open it: white first").rows("""
                begin 4 8 = 0
                seal 0 6 12 = 1
                open 0 4 = false
                open 0 4 = throws.NoSuchElementException
                open 0 8 = true
                pieceAt 0 12 = P
                isWhite 0 = false
                """);
        on("both members open it: black first").rows("""
                begin 4 8 = 0
                seal 0 6 12 = 1
                open 0 8 = false
                open 0 8 = throws.NoSuchElementException
                open 0 4 = true
                pieceAt 0 12 = P
                """);
        on("it is made as it was sealed, behind moves in other games").rows("""
                begin 0 9 = 0
                begin 9 0 = 1
                seal 0 10 16 = 1
                seal 1 6 12 = 2
                open 1 9 = false
                open 0 9 = false
                open 1 0 = true
                open 0 0 = true
                moveAt 0 0 = 1016
                moveAt 1 0 = 612
                """);
        on("a second sealed move has to be opened by both anew").rows("""
                begin 0 1 = 0
                seal 0 6 12 = 1
                open 0 0 = false
                open 0 1 = true
                seal 0 24 18 = 1
                open 0 1 = false
                moves 0 = 1
                open 0 1 = throws.NoSuchElementException
                open 0 0 = true
                moves 0 = 2
                """);
        Script others = on("no other member opens it").row("begin 2 5 = 0").row("seal 0 6 12 = 1");
        for (int member = -1; member <= 10; member++) {
            if (member != 2 && member != 5) {
                others.row("open 0 " + member + " = throws.NoSuchElementException");
            }
        }
        others.row("open 0 2 = false").row("open 0 5 = true");
    }

    private static void offering() {
        on("the side that moves can offer a draw: once, then it is offered").rows("""
                begin 0 1 = 0
                offer 0 = true
                offer 0 = false
                offer 0 = false
                stateOf 0 = u
                isWhite 0 = true
                move 0 6 12 = u
                offer 0 = true
                offer 0 = false
                """);
        on("a draw is offered in one game, not in others").rows("""
                begin 0 1 = 0
                begin 0 1 = 1
                offer 0 = true
                take 1 = throws.NoSuchElementException
                offer 1 = true
                take 0 = 1
                take 1 = 2
                """);
        on("a draw can be offered where two final games of three are lost").rows("""
                begin 0 1 = 0
                begin 0 1 = 1
                begin 0 1 = 2
                line 0 112 = u
                line 1 112 = u
                line 2 112 = u
                resign 0 = 0
                resign 1 = 0
                offer 2 = true
                """);
    }

    private static void offersThatLapse() {
        on("the other one can take it as long as no move was made since").rows("""
                begin 0 1 = 0
                offer 0 = true
                move 0 6 12 = u
                take 0 = throws.NoSuchElementException
                move 0 24 18 = u
                take 0 = throws.NoSuchElementException
                """);
        on("as long as no move was made since: a refused one is none").rows("""
                begin 0 1 = 0
                offer 0 = true
                move 0 6 18 = throws.UnsupportedOperationException
                seal 0 6 18 = throws.UnsupportedOperationException
                move 0 6 36 = throws.IllegalArgumentException
                take 0 = 1
                result 0 = 1
                """);
        on("as long as no move was sealed since").rows("""
                begin 0 1 = 0
                offer 0 = true
                seal 0 6 12 = 1
                take 0 = throws.UnsupportedOperationException
                open 0 0 = false
                take 0 = throws.UnsupportedOperationException
                open 0 1 = true
                take 0 = throws.NoSuchElementException
                offer 0 = true
                take 0 = 1
                """);
        on("as long as no move was made since: one in another game is none").rows("""
                begin 0 1 = 0
                begin 0 1 = 1
                offer 0 = true
                move 1 6 12 = u
                seal 1 24 18 = 1
                take 0 = 1
                """);
        on("what is offered can be taken, though the position was lost since").rows("""
                begin 0 1 = 0
                begin 0 1 = 1
                begin 0 1 = 2
                begin 0 1 = 3
                line 0 112 = u
                line 1 112 = u
                line 2 112 = u
                line 3 112 = u
                offer 3 = true
                resign 0 = 0
                resign 1 = 0
                resign 2 = 0
                isLost 3 0 = true
                offer 3 = throws.IllegalStateException
                take 3 = 4
                result 3 = 1
                """);
    }

    private static void taking() {
        on("a draw that is taken makes the game final").rows("""
                begin 0 1 = 0
                take 0 = throws.NoSuchElementException
                offer 0 = true
                take 0 = 1
                stateOf 0 = f
                result 0 = 1
                moves 0 = 0
                isWhite 0 = true
                take 0 = throws.UnsupportedOperationException
                """);
        on("black offers, white takes").rows("""
                begin 0 1 = 0
                line 0 112 = u
                offer 0 = true
                take 0 = 1
                result 0 = 1
                finals 0 = 1
                points 0 = 1
                """);
    }

    private static void resigning() {
        on("the side that moves can resign: white, before any move").rows("""
                begin 6 2 = 0
                resign 0 = 2
                result 0 = 0
                moves 0 = 0
                isWhite 0 = true
                legalMoves 0 = 10
                """);
        on("the side that moves can resign: black, behind one move").rows("""
                begin 6 2 = 0
                line 0 112 = u
                resign 0 = 6
                result 0 = 2
                """);
        on("the side that moves can resign, though a draw was offered").rows("""
                begin 6 2 = 0
                offer 0 = true
                resign 0 = 2
                result 0 = 0
                take 0 = throws.UnsupportedOperationException
                """);
    }

    private static void annulling() {
        on("annulled: from each state, and not again").rows("""
                begin 0 1 = 0
                begin 0 1 = 1
                begin 0 1 = 2
                seal 1 6 12 = 1
                resign 2 = 1
                annul 0 = u
                annul 1 = a
                annul 2 = f
                annul 0 = throws.UnsupportedOperationException
                annul 1 = throws.UnsupportedOperationException
                annul 2 = throws.UnsupportedOperationException
                games = 3
                """);
        on("annulled: a sealed move that one has opened is never made").rows("""
                begin 0 1 = 0
                seal 0 6 12 = 1
                open 0 0 = false
                annul 0 = a
                open 0 1 = throws.UnsupportedOperationException
                moves 0 = 0
                pieceAt 0 12 = .
                """);
        on("annulled: board, moves and the side that moves stay").rows("""
                begin 0 1 = 0
                line 0 112 3120 1220 = u
                annul 0 = u
                moves 0 = 3
                moveAt 0 2 = 1220
                pieceAt 0 20 = N
                isWhite 0 = false
                quiet 0 = 0
                repeats 0 = 1
                isLegal 0 30 31 = true
                allMoves = 3
                """);
    }
}
