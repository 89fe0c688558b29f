import java.util.ArrayList;
import java.util.List;

/**
 * Each exception that a promise names, by each of its reasons; which one is thrown if several apply; and that
 * a call that throws changes nothing: of two objects alike, only one gets the refused call, and all that is
 * asked and done behind it has to be the same on both. Each part of it is asked of two new objects.
 */
public final class RefusalTest {
    private static final String NO_GAMES = "";
    /** Game 0 is under way with a draw offered, 1 adjourned and opened by one, 2 final, 3 annulled. */
    private static final String EACH_STATE = """
            begin 0 1 = 0
            line 0 112 3423 = u
            copy 0 = 2
            damage 0 1 = 1
            offer 0 = true
            begin 1 2 = 1
            line 1 112 = u
            seal 1 24 18 = 1
            copy 1 = 1
            open 1 2 = false
            begin 2 3 = 2
            line 2 112 3423 = u
            resign 2 = 3
            copy 2 = 2
            begin 3 4 = 3
            line 3 612 = u
            seal 3 24 18 = 2
            copy 3 = 1
            annul 3 = a
            """;
    /** Games 0 to 2 are final where black is lost, 3 is adjourned, 4 annulled, 5 under way there. */
    private static final String WHERE_BLACK_IS_LOST = """
            begin 0 1 = 0
            begin 0 1 = 1
            begin 0 1 = 2
            begin 0 1 = 3
            begin 0 1 = 4
            begin 0 1 = 5
            line 0 112 = u
            line 1 112 = u
            line 2 112 = u
            line 3 112 = u
            line 4 112 = u
            line 5 112 = u
            resign 0 = 0
            resign 1 = 0
            resign 2 = 0
            seal 3 24 18 = 1
            annul 4 = u
            isLost 5 0 = true
            """;
    /** Games 0 to 2 are final where white is lost, 3 is adjourned, 4 annulled, 5 under way there. */
    private static final String WHERE_WHITE_IS_LOST = """
            begin 0 1 = 0
            begin 0 1 = 1
            begin 0 1 = 2
            begin 0 1 = 3
            begin 0 1 = 4
            begin 0 1 = 5
            line 0 112 2418 = u
            line 1 112 2418 = u
            line 2 112 2418 = u
            line 3 112 2418 = u
            line 4 112 2418 = u
            line 5 112 2418 = u
            resign 0 = 1
            resign 1 = 1
            resign 2 = 1
            seal 3 7 13 = 1
            annul 4 = u
            isLost 5 1 = true
            """;
    /** In game 0 black's king could be taken, and one move alone is legal; in 1 a knight may not go. */
    private static final String IN_CHECK = """
            begin 0 1 = 0
            line 0 415 3423 1528 = u
            begin 0 1 = 1
            line 1 814 2418 318 2620 1830 = u
            """;
    private static final String TWELVE_GAMES = """
            begin 0 1 = 0
            begin 1 2 = 1
            begin 2 3 = 2
            begin 3 4 = 3
            begin 4 5 = 4
            begin 5 6 = 5
            begin 6 7 = 6
            begin 7 8 = 7
            begin 8 9 = 8
            begin 9 0 = 9
            begin 0 1 = 10
            begin 1 2 = 11
            resign 1 = 2
            annul 2 = u
            """;
    private static final String ALL_ANNULLED = """
            begin 0 1 = 0
            resign 0 = 1
            annul 0 = f
            begin 0 1 = 1
            """;

    private static final Check check = new Check();

    public static void main(String[] args) {
        begin();
        moveAndSeal("move");
        moveAndSeal("seal");
        isLegal();
        open();
        offer();
        take();
        resignAndAnnul();
        result();
        moveAt();
        pieceAt();
        rating();
        damage();
        drawnShare();
        noSuchGame();
        check.end("RefusalTest");
    }

    private static void begin() {
        refused("2", "no such member", NO_GAMES, "throws.IllegalArgumentException", "begin -1 0", "begin 0 -1",
                "begin 10 0", "begin 0 10", "begin lowest 0", "begin 0 highest", "begin -1 10");
        refused("2", "both are the same", EACH_STATE, "throws.IllegalArgumentException", "begin 0 0", "begin 9 9",
                "begin -1 -1", "begin 10 10");
        refused("2", "there are 12 games", TWELVE_GAMES, "throws.IllegalStateException", "begin 0 1", "begin 9 8");
        refused("2", "12 games, and no such member", TWELVE_GAMES, "throws.IllegalArgumentException",
                "begin -1 0", "begin 0 -1", "begin 10 0", "begin 0 10", "begin lowest 0", "begin 0 highest");
        refused("2", "12 games, and both the same", TWELVE_GAMES, "throws.IllegalArgumentException",
                "begin 0 0", "begin 9 9");
    }

    private static void moveAndSeal(String name) {
        String promise = name.equals("move") ? "3" : "7";
        refused(promise, "no such square", EACH_STATE, "throws.IllegalArgumentException",
                name + " 0 -1 12", name + " 0 36 12", name + " 0 6 -1", name + " 0 6 36",
                name + " 0 lowest 12", name + " 0 highest 12", name + " 0 6 lowest", name + " 0 6 highest");
        refused(promise, "not under way", EACH_STATE, "throws.UnsupportedOperationException",
                name + " 1 25 19", name + " 1 24 18", name + " 2 7 13", name + " 3 24 18");
        refused(promise, "not legal", EACH_STATE, "throws.UnsupportedOperationException",
                name + " 0 7 19", name + " 0 6 6", name + " 0 14 20", name + " 0 24 18", name + " 0 0 7",
                name + " 0 0 35", name + " 0 12 18", name + " 0 2 8", name + " 0 7 12");
        refused(promise, "not legal, for the own king", IN_CHECK, "throws.UnsupportedOperationException",
                name + " 0 24 18", name + " 0 32 33", name + " 1 31 18", name + " 1 31 12");
        refused(promise, "not under way, and no such square", EACH_STATE, "throws.IllegalArgumentException",
                name + " 1 24 36", name + " 1 -1 18", name + " 2 7 36", name + " 2 36 13", name + " 3 24 -1",
                name + " 3 36 18");
    }

    private static void isLegal() {
        refused("4", "no such square", EACH_STATE, "throws.IllegalArgumentException",
                "isLegal 0 -1 12", "isLegal 0 36 12", "isLegal 0 6 -1", "isLegal 0 6 36", "isLegal 1 -1 36",
                "isLegal 2 0 highest", "isLegal 3 lowest 0");
    }

    private static void open() {
        refused("8", "not adjourned", EACH_STATE, "throws.UnsupportedOperationException",
                "open 0 0", "open 0 1", "open 2 2", "open 2 3", "open 3 3", "open 3 4");
        refused("8", "the member does not play it", EACH_STATE, "throws.NoSuchElementException",
                "open 1 0", "open 1 3", "open 1 9", "open 1 10", "open 1 -1", "open 1 lowest", "open 1 highest");
        refused("8", "the member has opened it", EACH_STATE, "throws.NoSuchElementException", "open 1 2");
        refused("8", "not adjourned, and the member does not play it", EACH_STATE,
                "throws.UnsupportedOperationException", "open 0 5", "open 2 -1", "open 3 10");
    }

    private static void offer() {
        refused("9", "not under way", EACH_STATE, "throws.UnsupportedOperationException", "offer 1", "offer 2", "offer 3");
        refused("9", "lost for black", WHERE_BLACK_IS_LOST, "throws.IllegalStateException", "offer 5");
        refused("9", "lost for white", WHERE_WHITE_IS_LOST, "throws.IllegalStateException", "offer 5");
        refused("9", "lost for black, and not under way", WHERE_BLACK_IS_LOST,
                "throws.UnsupportedOperationException", "offer 0", "offer 3", "offer 4");
        refused("9", "lost for white, and not under way", WHERE_WHITE_IS_LOST,
                "throws.UnsupportedOperationException", "offer 0", "offer 3", "offer 4");
    }

    private static void take() {
        refused("10", "none is offered", WHERE_BLACK_IS_LOST, "throws.NoSuchElementException", "take 5");
        refused("10", "none is offered", TWELVE_GAMES, "throws.NoSuchElementException", "take 0", "take 11");
        refused("10", "not under way, and none is offered", EACH_STATE, "throws.UnsupportedOperationException",
                "take 1", "take 2", "take 3");
        refused("10", "one was offered before it was sealed", "begin 0 1 = 0\noffer 0 = true\nseal 0 6 12 = 1",
                "throws.UnsupportedOperationException", "take 0");
        refused("10", "one was offered before it was annulled", "begin 0 1 = 0\noffer 0 = true\nannul 0 = u",
                "throws.UnsupportedOperationException", "take 0");
        refused("10", "one was offered before it was final", "begin 0 1 = 0\noffer 0 = true\nresign 0 = 1",
                "throws.UnsupportedOperationException", "take 0");
    }

    private static void resignAndAnnul() {
        refused("11", "not under way", EACH_STATE, "throws.UnsupportedOperationException",
                "resign 1", "resign 2", "resign 3");
        refused("12", "annulled", EACH_STATE, "throws.UnsupportedOperationException", "annul 3");
        refused("12", "annulled when final", ALL_ANNULLED, "throws.UnsupportedOperationException", "annul 0");
    }

    private static void result() {
        refused("14", "not final", EACH_STATE, "throws.NoSuchElementException", "result 0", "result 1", "result 3");
        refused("14", "not final any more", ALL_ANNULLED, "throws.NoSuchElementException", "result 0");
    }

    private static void moveAt() {
        refused("17", "no such move", EACH_STATE, "throws.NoSuchElementException", "moveAt 0 -1", "moveAt 0 2",
                "moveAt 1 1", "moveAt 2 2", "moveAt 3 1", "moveAt 0 lowest", "moveAt 0 highest");
    }

    private static void pieceAt() {
        refused("18", "no such square", EACH_STATE, "throws.IllegalArgumentException",
                "pieceAt 0 -1", "pieceAt 1 36", "pieceAt 2 lowest", "pieceAt 3 highest");
    }

    private static void rating() {
        refused("25", "no such member", EACH_STATE, "throws.IllegalArgumentException",
                "rating -1", "rating 10", "rating lowest", "rating highest");
    }

    private static void damage() {
        refused("30", "less than 0", EACH_STATE, "throws.IllegalArgumentException",
                "damage 0 -1", "damage 1 -1", "damage 2 lowest", "damage 3 -1");
    }

    private static void drawnShare() {
        refused("34", "there are none", NO_GAMES, "throws.ArithmeticException", "drawnShare");
        refused("34", "there are none any more", ALL_ANNULLED, "throws.ArithmeticException", "drawnShare");
    }

    /** No such game goes first, whatever else is wrong with the call. */
    private static void noSuchGame() {
        for (String name : Calls.OF_A_GAME) {
            for (String others : List.of(" 0 6", " -1 36", " 36 -1", " lowest highest")) {
                noSuchGame(name, others, NO_GAMES, "-1", "0", "11", "lowest", "highest");
                noSuchGame(name, others, EACH_STATE, "-1", "4", "11", "12", "lowest", "highest");
                noSuchGame(name, others, TWELVE_GAMES, "-1", "12", "lowest", "highest");
            }
        }
    }

    private static void noSuchGame(String name, String others, String scene, String... games) {
        int more = Calls.numbersOf(name) - 1;
        for (String game : games) {
            StringBuilder row = new StringBuilder(name).append(' ').append(game);
            String[] words = others.strip().split(" ");
            for (int i = 0; i < more; i++) {
                row.append(' ').append(words[i]);
            }
            refused("3 to 30", "no such game", scene, "throws.IndexOutOfBoundsException", row.toString());
        }
    }

    private static void refused(String promise, String reason, String scene, String due, String... rows) {
        for (String row : rows) {
            String what = "Promise " + promise + ", " + reason + ": " + row;
            int games = built(what, scene).club.games();
            for (int part = -2; part < games; part++) {
                Script other = built(what, scene).row(row + " = " + due);
                check.due(what + ", changes nothing, part " + part,
                        told(built(what, scene), part, games), told(other, part, games));
            }
        }
    }

    private static Script built(String what, String scene) {
        return new Script(check, what).rows(scene);
    }

    private static String told(Script run, int part, int games) {
        List<String> answers = new ArrayList<>();
        if (part == -2) {
            askTheClub(run, answers);
        } else if (part == -1) {
            goOn(run, answers, games);
        } else {
            askAGame(run, answers, part);
        }
        return answers.toString();
    }

    private static void askTheClub(Script run, List<String> answers) {
        for (String name : List.of("gaps", "games", "allMoves", "drawnShare", "meanRating", "isSound")) {
            answers.add(run.answer(name, 0, 0, 0));
        }
        for (int member = 0; member < 10; member++) {
            answers.add(run.answer("rating", member, 0, 0));
        }
    }

    private static void askAGame(Script run, List<String> answers, int game) {
        for (int square = 0; square < 36; square++) {
            answers.add(run.answer("pieceAt", game, square, 0));
        }
        for (String name : List.of("legalMoves", "isInCheck", "stateOf", "result", "isWhite", "moves", "quiet",
                "repeats", "seen", "finals", "points", "copied", "hasGap", "isWhole")) {
            answers.add(run.answer(name, game, 0, 0));
        }
        for (int i = 0; i < 4; i++) {
            answers.add(run.answer("moveAt", game, i, 0));
            answers.add(run.answer("isLost", game, i % 2, 0));
        }
    }

    /** What is held and not asked for shows in what calls behind do: offers, openings, the sealed move. */
    private static void goOn(Script run, List<String> answers, int games) {
        for (int game = 0; game < games; game++) {
            int white = game % 10;
            answers.add(run.answer("take", game, 0, 0));
            answers.add(run.answer("open", game, white, 0));
            answers.add(run.answer("open", game, (white + 1) % 10, 0));
            answers.add(run.answer("offer", game, 0, 0));
            answers.add(run.answer("offer", game, 0, 0));
            answers.add(run.answer("move", game, 8, 14));
            answers.add(run.answer("seal", game, 26, 20));
            answers.add(run.answer("open", game, white, 0));
            answers.add(run.answer("copy", game, 0, 0));
            answers.add(run.answer("open", game, (white + 1) % 10, 0));
            answers.add(run.answer("resign", game, 0, 0));
            answers.add(run.answer("moveAt", game, 1, 0));
            answers.add(run.answer("moveAt", game, 2, 0));
            answers.add(run.answer("rating", white, 0, 0));
            answers.add(run.answer("annul", game, 0, 0));
            answers.add(run.answer("rating", white, 0, 0));
        }
        askTheClub(run, answers);
        answers.add(run.answer("begin", 5, 6, 0));
    }
}
