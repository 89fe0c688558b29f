import java.lang.reflect.Method;

/** Calls a method of the face by its name; arguments that it does not take are left aside. */
final class Calls {
    // What an object is used for, at most, after it has been made.
    static final int MOST = 512;

    /** The methods that take a game's number first. */
    static final String[] OF_A_GAME = {
        "move", "isLegal", "legalMoves", "isInCheck", "seal", "open", "offer", "take", "resign", "annul",
        "stateOf", "result", "isWhite", "moves", "moveAt", "pieceAt", "quiet", "repeats", "seen", "finals",
        "points", "isLost", "copy", "copied", "hasGap", "isWhole", "damage"};

    private Calls() {
    }

    /** How many arguments the method takes. */
    static int numbersOf(String name) {
        for (Method method : Gambitvault.class.getMethods()) {
            if (method.getName().equals(name)) {
                return method.getParameterCount();
            }
        }
        throw new AssertionError("no method " + name);
    }

    /** The answer, or "throws." with the exact name of the class that is thrown. */
    static Object answer(Gambitvault x, String name, int a, int b, int c) {
        return Check.answerOf(() -> call(x, name, a, b, c));
    }

    private static Object call(Gambitvault x, String name, int a, int b, int c) {
        return switch (name) {
            case "begin" -> x.begin(a, b);
            case "move" -> x.move(a, b, c);
            case "isLegal" -> x.isLegal(a, b, c);
            case "legalMoves" -> x.legalMoves(a);
            case "isInCheck" -> x.isInCheck(a);
            case "seal" -> x.seal(a, b, c);
            case "open" -> x.open(a, b);
            case "offer" -> x.offer(a);
            case "take" -> x.take(a);
            case "resign" -> x.resign(a);
            case "annul" -> x.annul(a);
            case "stateOf" -> x.stateOf(a);
            case "result" -> x.result(a);
            case "isWhite" -> x.isWhite(a);
            case "moves" -> x.moves(a);
            case "moveAt" -> x.moveAt(a, b);
            case "pieceAt" -> x.pieceAt(a, b);
            case "quiet" -> x.quiet(a);
            case "repeats" -> x.repeats(a);
            case "seen" -> x.seen(a);
            case "finals" -> x.finals(a);
            case "points" -> x.points(a);
            case "isLost" -> x.isLost(a, b == 1);
            case "rating" -> x.rating(a);
            case "copy" -> x.copy(a);
            case "copied" -> x.copied(a);
            case "hasGap" -> x.hasGap(a);
            case "isWhole" -> x.isWhole(a);
            case "damage" -> x.damage(a, b);
            case "gaps" -> x.gaps();
            case "games" -> x.games();
            case "allMoves" -> x.allMoves();
            case "drawnShare" -> x.drawnShare();
            case "meanRating" -> x.meanRating();
            case "isSound" -> x.isSound();
            default -> throw new AssertionError("no method " + name);
        };
    }
}
