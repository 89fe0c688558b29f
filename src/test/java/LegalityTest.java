import java.util.List;
import java.util.Random;

/**
 * Positions of many games, each asked for every pair of squares: what is legal, how many moves there are,
 * and whether the king could be taken have to be as the model tells it.
 */
public final class LegalityTest {
    private static final int GAMES = 400;
    private static final int LONGEST = 60;
    private static final int PAIRS = 36 * 36;
    // So many questions leave room for the moves of the longest game in one object's use.
    private static final int QUESTIONS = 432;

    private static final Check check = new Check();

    public static void main(String[] args) {
        for (int[] line : List.of(Lines.WHITE_MATES, Lines.BLACK_MATES, Lines.STALEMATE, Lines.WHITE_CROWNS,
                Lines.BLACK_CROWNS, Lines.THRICE, Lines.MATE_AT_FORTY, Lines.TO_THE_MIRROR)) {
            for (int count = 0; count <= line.length; count++) {
                askAll(line, count);
            }
        }
        for (int seed = 0; seed < GAMES; seed++) {
            int[] line = someLine(new Random(seed), seed % LONGEST + 1);
            askAll(line, line.length);
        }
        check.end("LegalityTest");
    }

    /** Moves by chance from the beginning on, as many as told, or fewer if the game ends before. */
    private static int[] someLine(Random random, int length) {
        Model model = new Model();
        model.begin(0, 1);
        int[] line = new int[length];
        int size = 0;
        while (size < length && model.stateOf(0) == 'u') {
            List<Integer> legal = model.legalOf(0);
            line[size] = legal.get(random.nextInt(legal.size()));
            model.move(0, line[size] / 100, line[size] % 100);
            size++;
        }
        return java.util.Arrays.copyOf(line, size);
    }

    private static void askAll(int[] line, int count) {
        Model model = new Model();
        model.begin(0, 1);
        for (int i = 0; i < count; i++) {
            model.move(0, line[i] / 100, line[i] % 100);
        }
        List<Integer> legal = model.legalOf(0);
        String where = "position " + model.positionOf(0);
        for (int first = 0; first < PAIRS; first += QUESTIONS) {
            Gambitvault x = after(line, count);
            check.due(where + ": legal moves", legal.size(), x.legalMoves(0));
            check.due(where + ": in check", model.isInCheck(0), x.isInCheck(0));
            for (int pair = first; pair < first + QUESTIONS; pair++) {
                int from = pair / 36;
                int to = pair % 36;
                check.due(where + ": " + from + " to " + to, legal.contains(from * 100 + to), x.isLegal(0, from, to));
            }
        }
    }

    private static Gambitvault after(int[] line, int count) {
        Gambitvault x = new Gambitvault();
        x.begin(0, 1);
        for (int i = 0; i < count; i++) {
            x.move(0, line[i] / 100, line[i] % 100);
        }
        return x;
    }
}
