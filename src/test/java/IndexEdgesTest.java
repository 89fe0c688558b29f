/** The document's "Index": each sentence of it that names a boundary, by a run of calls of its own. */
public final class IndexEdgesTest {
    private static final Check check = new Check();
    // Behind the first four moves, and behind all twelve: the second position is the first one, mirrored.
    private static final String TO_THE_MIRRORED = "814 2620 915 2721 208 3226 302 3332 809 2627 903 2733";
    private static final String BACK = "309 3327 908 2726 203 3233 802 2632";

    public static void main(String[] args) {
        cameByAMove();
        notAnnulled();
        eachOnce();
        results();
        mirrored();
        mirroredInOneGame();
        otherPositions();
        atLeastThree();
        belowAHalf();
        aboveOneAndAHalf();
        whereNoDrawIsOffered();
        twelveInTheIndex();
        check.end("IndexEdgesTest");
    }

    private static Script on(String sentence) {
        return new Script(check, "Index: " + sentence);
    }

    /** A game at the position behind white's first move, and then one for each sign, final there: w, d, l. */
    private static Script behindOneMove(String sentence, String results) {
        Script run = on(sentence).row("begin 0 1 = 0").row("line 0 112 = u");
        for (int i = 0; i < results.length(); i++) {
            end(run, i + 1, "112", results.charAt(i));
        }
        return run.row("finals 0 = " + results.length()).row("points 0 = " + pointsOf(results));
    }

    /** Plays a line, behind which black moves, and ends the game with a win of white, a draw or a loss. */
    private static void end(Script run, int game, String line, char result) {
        run.row("begin 2 3 = " + game).row("line " + game + " " + line + " = u");
        if (result != 'w') {
            run.row("line " + game + " 2418 = u");
        }
        if (result == 'd') {
            run.row("offer " + game + " = true").row("take " + game);
        } else {
            run.row("resign " + game + " = " + (result == 'w' ? 2 : 3));
        }
    }

    private static int pointsOf(String results) {
        int sum = 0;
        for (char result : results.toCharArray()) {
            sum += result == 'w' ? 2 : result == 'd' ? 1 : 0;
        }
        return sum;
    }

    private static void cameByAMove() {
        on("each position that came by a move: the beginning did not").rows("""
                begin 0 1 = 0
                seen 0 = 0
                line 0 112 = u
                seen 0 = 1
                begin 0 1 = 1
                seen 1 = 0
                """);
        on("each position that came by a move: the beginning, too, if it did").rows("""
                begin 0 1 = 0
                line 0 112 3423 1201 2334 = u
                seen 0 = 1
                begin 0 1 = 1
                seen 1 = 1
                line 1 417 = u
                seen 1 = 1
                """);
        on("each position that came by a move: a sealed one is not made").rows("""
                begin 0 1 = 0
                begin 0 1 = 1
                line 1 112 = u
                seal 0 1 12 = 1
                seen 0 = 0
                seen 1 = 1
                open 0 0 = false
                seen 1 = 1
                open 0 1 = true
                seen 1 = 2
                seen 0 = 2
                """);
    }

    private static void notAnnulled() {
        on("in a game which is not annulled: under way, adjourned, final").rows("""
                begin 0 1 = 0
                begin 0 1 = 1
                begin 0 1 = 2
                begin 0 1 = 3
                line 0 112 = u
                line 1 112 = u
                line 2 112 = u
                line 3 112 = u
                seal 1 24 18 = 1
                resign 2 = 0
                resign 3 = 0
                seen 0 = 4
                finals 0 = 2
                points 0 = 4
                annul 0 = u
                seen 0 = 3
                annul 1 = a
                seen 0 = 2
                finals 0 = 2
                annul 2 = f
                seen 0 = 1
                finals 0 = 1
                points 0 = 2
                annul 3 = f
                seen 0 = 0
                finals 0 = 0
                points 0 = 0
                isSound = true
                """);
        on("in a game which is not annulled: what the other one has stays").rows("""
                begin 0 1 = 0
                begin 0 1 = 1
                line 0 112 3423 = u
                line 1 112 = u
                annul 0 = u
                seen 1 = 1
                seen 0 = 0
                """);
    }

    private static void eachOnce() {
        on("the number of games in which it came, each once: twice in one game").rows("""
                begin 0 1 = 0
                begin 0 1 = 1
                line 1 112 = u
                line 0 112 = u
                seen 0 = 2
                line 0 3423 1201 2334 112 = u
                repeats 0 = 2
                seen 0 = 2
                resign 0 = 0
                finals 1 = 1
                points 1 = 2
                """);
        on("the number of games in which it came, each once: three times, by which the game is drawn").rows("""
                begin 0 1 = 0
                begin 0 1 = 1
                line 0 112 3423 1201 2334 112 3423 1201 = u
                seen 1 = 1
                finals 1 = 0
                move 0 23 34 = d
                seen 1 = 1
                finals 1 = 1
                points 1 = 1
                annul 0 = f
                seen 1 = 0
                finals 1 = 0
                points 1 = 0
                """);
    }

    private static void results() {
        behindOneMove("2 for a win of white", "w").row("seen 0 = 2").row("points 0 = 2");
        behindOneMove("1 for a draw", "d").row("seen 0 = 2").row("points 0 = 1");
        behindOneMove("0 for a win of black", "l").row("seen 0 = 2").row("points 0 = 0");
        on("the results of those that are final: the last position, too, by which it is").rows("""
                begin 0 1 = 0
                line 0 112 3120 1220 3031 = u
                finals 0 = 0
                move 0 20 24 = w
                seen 0 = 1
                finals 0 = 1
                points 0 = 2
                """);
        on("the results of those that are final: the last position, by a sealed move").rows("""
                begin 0 1 = 0
                line 0 112 3120 1220 3031 = u
                seal 0 20 24 = 1
                finals 0 = 0
                open 0 1 = false
                open 0 0 = true
                seen 0 = 1
                finals 0 = 1
                points 0 = 2
                """);
        on("the results of those that are final: not a position that did not come in them").rows("""
                begin 0 1 = 0
                begin 0 1 = 1
                line 0 112 = u
                line 1 112 3423 = u
                resign 0 = 0
                seen 1 = 1
                finals 1 = 0
                points 1 = 0
                """);
    }

    private static void mirrored() {
        on("a position and the one that is mirrored are one, in two games").row("begin 0 1 = 0").row("begin 0 1 = 1")
                .row("line 0 814 2620 915 2721 = u").row("seen 0 = 1")
                .row("line 1 " + TO_THE_MIRRORED + " = u").row("seen 0 = 2").row("seen 1 = 2")
                .row("resign 0 = 1").row("finals 1 = 1").row("points 1 = 0").row("isSound = true")
                .row("annul 1 = u").row("seen 0 = 1").row("seen 1 = 1").row("finals 1 = 1");
        Script lost = on("a position and the one that is mirrored are one: it is lost as well");
        for (int game = 0; game < 3; game++) {
            lost.row("begin 0 1 = " + game).row("line " + game + " 814 2620 915 2721 = u").row("resign " + game + " = 1");
        }
        lost.row("begin 0 1 = 3").row("line 3 " + TO_THE_MIRRORED + " = u").row("isLost 3 1 = true")
                .row("isLost 3 0 = false").row("offer 3 = throws.IllegalStateException");
        on("left and right are exchanged: king and queen, too").rows("""
                begin 0 1 = 0
                begin 0 1 = 1
                line 0 112 = u
                line 1 417 = u
                seen 0 = 1
                seen 1 = 1
                """);
    }

    private static void mirroredInOneGame() {
        on("they are one, also in one game: it counts once").row("begin 0 1 = 0")
                .row("line 0 " + TO_THE_MIRRORED + " = u").row("seen 0 = 1")
                .row("resign 0 = 1").row("finals 0 = 1").row("points 0 = 0")
                .row("annul 0 = f").row("seen 0 = 0").row("finals 0 = 0").row("isSound = true");
        on("they are one in the index: in the game, all squares are as they are").row("begin 0 1 = 0")
                .row("line 0 " + TO_THE_MIRRORED + " = u").row("repeats 0 = 1")
                .row("line 0 " + BACK + " = u").row("repeats 0 = 2").row("stateOf 0 = u").row("seen 0 = 1");
    }

    private static void otherPositions() {
        on("a position is all squares and the side that moves: with the other side it is another one").rows("""
                begin 0 1 = 0
                begin 0 1 = 1
                line 0 612 2822 1218 2620 = u
                line 1 612 2822 1218 2620 = u
                seen 0 = 2
                line 1 6 3423 612 2334 1200 = u
                seen 1 = 1
                seen 0 = 2
                """);
        on("mirrored is left and right, of both sides together").rows("""
                begin 0 1 = 0
                begin 0 1 = 1
                line 0 612 = u
                line 1 612 2418 = u
                seen 0 = 2
                seen 1 = 1
                begin 0 1 = 2
                line 2 713 2418 612 = u
                begin 0 1 = 3
                line 3 612 2519 713 = u
                seen 2 = 1
                seen 3 = 1
                """);
        on("all squares: one pawn elsewhere is another one").rows("""
                begin 0 1 = 0
                begin 0 1 = 1
                line 0 612 2418 = u
                line 1 612 2519 = u
                seen 0 = 1
                seen 1 = 1
                line 0 713 2519 = u
                line 1 713 2418 = u
                seen 0 = 2
                """);
    }

    private static void atLeastThree() {
        behindOneMove("lost for white if at least 3 final games are counted: not 2", "ll")
                .row("isLost 0 1 = false").row("offer 0 = true");
        behindOneMove("lost for white if at least 3 final games are counted: 3", "lll")
                .row("isLost 0 1 = true").row("isLost 0 0 = false").row("offer 0 = throws.IllegalStateException");
        behindOneMove("lost for black if at least 3 final games are counted: not 2", "ww")
                .row("isLost 0 0 = false").row("offer 0 = true");
        behindOneMove("lost for black if at least 3 final games are counted: 3", "www")
                .row("isLost 0 0 = true").row("isLost 0 1 = false").row("offer 0 = throws.IllegalStateException");
        behindOneMove("at least 3 final games: one under way is none", "ll").row("begin 0 1 = 3")
                .row("line 3 112 = u").row("seen 0 = 4").row("isLost 0 1 = false");
        behindOneMove("at least 3 final games: one that is annulled is none", "lll")
                .row("annul 3 = f").row("isLost 0 1 = false").row("offer 0 = true");
        on("at least 3 final games: none at all").row("begin 0 1 = 0").row("isLost 0 1 = false").row("isLost 0 0 = false");
    }

    private static void belowAHalf() {
        behindOneMove("below 0.5 for white: 1 of 3", "dll").row("isLost 0 1 = true").row("isLost 0 0 = false");
        behindOneMove("below 0.5 for white: just 0.5 is not, 2 of 4", "wlll").row("isLost 0 1 = false").row("offer 0 = true");
        behindOneMove("below 0.5 for white: just 0.5 is not, 3 of 6", "wdllll").row("isLost 0 1 = false");
        behindOneMove("below 0.5 for white: just 0.5 is not, 5 of 10", "wwdlllllll").row("isLost 0 1 = false");
        behindOneMove("below 0.5 for white: 2 of 5", "wllll").row("isLost 0 1 = true");
        behindOneMove("below 0.5 for white: 5 of 11", "wwdllllllll").row("isLost 0 1 = true")
                .row("offer 0 = throws.IllegalStateException");
        behindOneMove("below 0.5 for white: 2 of 3 is not", "wll").row("isLost 0 1 = false");
        behindOneMove("below 0.5 for white: 6 of 11 is not", "wwddlllllll").row("isLost 0 1 = false");
    }

    private static void aboveOneAndAHalf() {
        behindOneMove("above 1.5 for black: 5 of 3", "dww").row("isLost 0 0 = true").row("isLost 0 1 = false");
        behindOneMove("above 1.5 for black: just 1.5 is not, 6 of 4", "lwww").row("isLost 0 0 = false").row("offer 0 = true");
        behindOneMove("above 1.5 for black: just 1.5 is not, 9 of 6", "dlwwww").row("isLost 0 0 = false");
        behindOneMove("above 1.5 for black: just 1.5 is not, 15 of 10", "dllwwwwwww").row("isLost 0 0 = false");
        behindOneMove("above 1.5 for black: 8 of 5", "lwwww").row("isLost 0 0 = true");
        behindOneMove("above 1.5 for black: 17 of 11", "dllwwwwwwww").row("isLost 0 0 = true")
                .row("offer 0 = throws.IllegalStateException");
        behindOneMove("above 1.5 for black: 4 of 3 is not", "lww").row("isLost 0 0 = false");
        behindOneMove("above 1.5 for black: 16 of 11 is not", "ddllwwwwwww").row("isLost 0 0 = false");
    }

    private static void whereNoDrawIsOffered() {
        for (int moves = 1; moves <= 2; moves++) {
            String line = moves == 1 ? "112" : "112 2418";
            for (char result : new char[] {'w', 'l'}) {
                Script run = on("a draw may not be offered where it is lost for either side: " + line + " " + result);
                for (int game = 0; game < 3; game++) {
                    run.row("begin 2 3 = " + game).row("line " + game + " 112 2418 = u");
                    if (result == 'w') {
                        run.row("line " + game + " 713 = u");
                    }
                    run.row("resign " + game + " = " + (result == 'w' ? 2 : 3));
                }
                run.row("begin 0 1 = 3").row("offer 3 = true").row("line 3 " + line + " = u");
                run.row("isLost 3 1 = " + (result == 'l')).row("isLost 3 0 = " + (result == 'w'));
                run.row("offer 3 = throws.IllegalStateException").row("take 3 = throws.NoSuchElementException");
            }
        }
    }

    private static void twelveInTheIndex() {
        Script run = on("all games in which it came: 12");
        for (int game = 0; game < 12; game++) {
            run.row("begin 0 1 = " + game).row("line " + game + " 112 = u").row("seen 0 = " + (game + 1));
        }
        for (int game = 0; game < 12; game++) {
            run.row("resign " + game + " = 0").row("finals 11 = " + (game + 1)).row("points 11 = " + 2 * (game + 1));
        }
        for (int game = 0; game < 12; game++) {
            run.row("annul " + game + " = f").row("seen 0 = " + (11 - game));
        }
        run.row("isSound = true");
    }
}
