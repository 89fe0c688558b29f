import java.lang.reflect.Array;
import java.lang.reflect.Field;

/** What an object holds, for states that no 512 calls, or only very long ones, lead to. */
final class Inside {
    private static final String LETTERS = "kqrnp.PNRQK";

    private Inside() {
    }

    static Object in(Object holder, String name) {
        try {
            return field(holder, name).get(holder);
        } catch (ReflectiveOperationException e) {
            throw new AssertionError(e);
        }
    }

    static void put(Object holder, String name, Object value) {
        try {
            field(holder, name).set(holder, value);
        } catch (ReflectiveOperationException e) {
            throw new AssertionError(e);
        }
    }

    private static Field field(Object holder, String name) throws ReflectiveOperationException {
        Field field = holder.getClass().getDeclaredField(name);
        field.setAccessible(true);
        return field;
    }

    static Object game(Gambitvault x, int game) {
        return Array.get(in(x, "store"), game);
    }

    static double[] ratings(Gambitvault x) {
        return (double[]) in(in(x, "book"), "ratings");
    }

    /** Puts a position on a game's board: the letters of 36 squares, and 'w' or 'b' for the side that moves. */
    static void putPosition(Gambitvault x, int game, String position) {
        Object board = in(game(x, game), "board");
        int[] squares = (int[]) in(board, "squares");
        for (int square = 0; square < squares.length; square++) {
            squares[square] = LETTERS.indexOf(position.charAt(square)) - LETTERS.indexOf('.');
        }
        put(board, "isWhiteNext", position.charAt(36) == 'w');
    }
}
