import java.util.ArrayList;
import java.util.List;
import java.util.Random;

/**
 * "An object is used for at most 512 calls after it has been made": one game with as many moves as they
 * allow, and the last of them answered as each before it.
 */
public final class UseTest {
    private static final int LONGEST = Calls.MOST - 1;
    private static final int MOST_QUIET = 40;
    private static final Check check = new Check();

    public static void main(String[] args) {
        List<Integer> line = longLine(LONGEST, 0);
        check.due("a game of 511 moves", LONGEST, line.size());
        onlyMoves(line);
        askedAtTheEnd(line);
        sealedAtTheEnd(line);
        twoLongGames();
        onlyQuestions();
        check.end("UseTest");
    }

    /** Moves that do not end the game: by chance, but without a third coming or a fortieth quiet move. */
    private static List<Integer> longLine(int length, int firstSeed) {
        for (int seed = firstSeed; seed < firstSeed + 1000; seed++) {
            List<Integer> line = someLine(new Random(seed), length);
            if (line.size() == length) {
                return line;
            }
        }
        return List.of();
    }

    private static List<Integer> someLine(Random random, int length) {
        Model model = new Model();
        model.begin(0, 1);
        List<Integer> line = new ArrayList<>();
        while (line.size() < length) {
            List<Integer> good = goodMoves(model);
            if (good.isEmpty()) {
                return line;
            }
            int move = good.get(random.nextInt(good.size()));
            model.move(0, move / 100, move % 100);
            line.add(move);
        }
        return line;
    }

    /** Pawns are moved only shortly before the fortieth quiet move, and nothing is taken if it need not be. */
    private static List<Integer> goodMoves(Model model) {
        List<Integer> quiet = new ArrayList<>();
        List<Integer> pawns = new ArrayList<>();
        List<Integer> others = new ArrayList<>();
        for (int move : model.legalOf(0)) {
            String next = model.afterMove(0, move);
            if (model.timesOf(0, next) < 2 && Model.legal(next).size() > 3) {
                boolean takes = model.pieceAt(0, move % 100) != '.';
                boolean isPawn = "Pp".indexOf(model.pieceAt(0, move / 100)) >= 0;
                (takes ? others : isPawn ? pawns : quiet).add(move);
            }
        }
        boolean isLate = model.quiet(0) >= MOST_QUIET - 6;
        if (isLate && !pawns.isEmpty()) {
            return pawns;
        }
        if (isLate && !others.isEmpty()) {
            return others;
        }
        return model.quiet(0) < MOST_QUIET - 1 ? quiet : List.of();
    }

    private static Gambitvault played(List<Integer> line, int moves) {
        Gambitvault x = new Gambitvault();
        x.begin(0, 1);
        for (int i = 0; i < moves; i++) {
            check.due("move " + i, 'u', x.move(0, line.get(i) / 100, line.get(i) % 100));
        }
        return x;
    }

    private static void onlyMoves(List<Integer> line) {
        played(line, LONGEST);
        for (int left = 1; left <= 12; left++) {
            Gambitvault x = played(line, LONGEST - left);
            Object[] due = {LONGEST - left, (long) (LONGEST - left), line.get(LONGEST - left - 1), true, 1, true};
            Object[] got = new Object[due.length];
            int asked = Math.min(left, due.length);
            for (int i = 0; i < asked; i++) {
                got[i] = answer(x, i, LONGEST - left);
                check.due("question " + i + " behind " + (LONGEST - left) + " moves", due[i], got[i]);
            }
        }
    }

    private static Object answer(Gambitvault x, int question, int moves) {
        return switch (question) {
            case 0 -> x.moves(0);
            case 1 -> x.allMoves();
            case 2 -> x.moveAt(0, moves - 1);
            case 3 -> x.isSound();
            case 4 -> x.seen(0);
            default -> x.stateOf(0) == 'u';
        };
    }

    private static void askedAtTheEnd(List<Integer> line) {
        int moves = LONGEST - 9;
        Gambitvault x = played(line, moves);
        check.due("copies all", moves, x.copy(0));
        check.due("damages all but one", 1, x.damage(0, moves - 1));
        check.due("copies one", 1, x.copy(0));
        check.due("is whole", true, x.isWhole(0));
        check.due("is sound", true, x.isSound());
        check.due("white resigns, or black", moves % 2 == 0 ? 1 : 0, x.resign(0));
        check.due("final at its last position", 1, x.finals(0));
        check.due("annulled", 'f', x.annul(0));
        check.due("in the index no more, by the 512th call", 0, x.seen(0));
    }

    private static void sealedAtTheEnd(List<Integer> line) {
        int moves = LONGEST - 6;
        Gambitvault x = played(line, moves);
        int move = line.get(moves);
        check.due("seals", 1, x.seal(0, move / 100, move % 100));
        check.due("copies", moves, x.copy(0));
        check.due("opens", false, x.open(0, 0));
        check.due("makes it", true, x.open(0, 1));
        check.due("is healed", moves + 1, x.copied(0));
        check.due("is sound, by the 512th call", true, x.isSound());
    }

    /** Some 500 positions of two games: none is taken for another one. */
    private static void twoLongGames() {
        int most = (Calls.MOST - 8) / 2;
        List<Integer> first = longLine(most, 2000);
        List<Integer> second = longLine(most, 4000);
        check.due("the games begin in two ways", false, first.get(0).equals(second.get(0)));
        for (int moves = most - 60; moves <= most; moves++) {
            Gambitvault x = played(first, moves);
            x.begin(1, 0);
            for (int i = 0; i < moves; i++) {
                x.move(1, second.get(i) / 100, second.get(i) % 100);
            }
            check.due("resigned behind " + moves, moves % 2 == 0 ? 1 : 0, x.resign(0));
            check.due("the first one's position is seen behind " + moves, 1, x.seen(0));
            check.due("the second one's position is seen behind " + moves, 1, x.seen(1));
            check.due("the second one's position has no final game behind " + moves, 0, x.finals(1));
            check.due("the first one's position has one behind " + moves, 1, x.finals(0));
        }
    }

    private static void onlyQuestions() {
        Gambitvault x = new Gambitvault();
        for (int i = 0; i < 12; i++) {
            check.due("begin", i, x.begin(i % 10, (i + 1) % 10));
        }
        for (int i = 12; i < Calls.MOST - 1; i++) {
            check.due("is sound", true, x.isSound());
        }
        check.due("12 games by the 512th call", 12, x.games());
    }
}
