import java.lang.reflect.Array;

/** That isSound looks at all it tells of: each part is spoiled from outside, and has to be found. */
public final class SoundTest {
    private static final int GAMES = 12;
    private static final Check check = new Check();

    public static void main(String[] args) {
        Gambitvault x = played();
        ratings(x);
        index(x);
        for (int game = 0; game < GAMES; game++) {
            copies(x, game);
        }
        moreThanItsMoves(x);
        check.end("SoundTest");
    }

    private static Gambitvault played() {
        Gambitvault x = new Gambitvault();
        for (int i = 0; i < GAMES; i++) {
            x.begin(i % 10, (i + 1) % 10);
            x.move(i, 1, 12);
            x.move(i, 34, 23);
            if (i % 2 == 0) {
                x.move(i, 7 + i / 2 % 5, 13 + i / 2 % 5);
            }
            if (i == 0 || i == GAMES - 1) {
                x.move(i, i == 0 ? 28 : 10, i == 0 ? 22 : 16);
            }
            x.copy(i);
        }
        for (int i = 0; i < 5; i++) {
            x.resign(i);
        }
        x.annul(2);
        x.annul(7);
        check.due("as played", true, x.isSound());
        return x;
    }

    private static void ratings(Gambitvault x) {
        double[] ratings = Inside.ratings(x);
        for (int member = 0; member < ratings.length; member++) {
            double before = ratings[member];
            for (double wrong : new double[] {before + 0.5, before - 1e-9, 0.0}) {
                ratings[member] = wrong;
                check.due("spoiled: the rating of " + member, false, x.isSound());
            }
            ratings[member] = before;
        }
        check.due("mended: ratings", true, x.isSound());
    }

    private static void index(Gambitvault x) {
        Object openings = Inside.in(x, "openings");
        int[] cameIn = (int[]) Inside.in(openings, "cameIn");
        for (int slot = 0; slot < cameIn.length; slot++) {
            if (cameIn[slot] != 0) {
                spoil(x, "the games of a position", cameIn, slot, cameIn[slot] ^ 64);
                spoil(x, "a position that is gone", cameIn, slot, 0);
                spoil(x, "a lower half", Inside.in(openings, "lows"), slot, 5);
                spoil(x, "an upper half", Inside.in(openings, "highs"), slot, 5);
                spoil(x, "finals of a position", Inside.in(openings, "finalCounts"), slot, 9);
                spoil(x, "points of a position", Inside.in(openings, "pointSums"), slot, 19);
            }
        }
        int free = 0;
        while (cameIn[free] != 0) {
            free++;
        }
        spoil(x, "a position that did not come", cameIn, free, 1);
        check.due("mended: index", true, x.isSound());
    }

    private static void copies(Gambitvault x, int game) {
        Object copy = Inside.in(Inside.game(x, game), "copy");
        Object moves = Inside.in(copy, "moves");
        for (int move = 0; move < x.copied(game); move++) {
            spoil(x, "the copied move " + move + " of game " + game, moves, move, 99);
        }
        x.damage(game, 1);
        check.due("a copy that was damaged", true, x.isSound());
        x.copy(game);
        check.due("mended: the copy of game " + game, true, x.isSound());
    }

    private static void moreThanItsMoves(Gambitvault x) {
        for (int game = 0; game < GAMES; game++) {
            Object copy = Inside.in(Inside.game(x, game), "copy");
            int size = x.moves(game);
            Inside.put(copy, "size", size + 1);
            check.due("a copy of game " + game + " with more than its moves", false, x.isSound());
            Inside.put(copy, "size", size);
        }
        check.due("mended: copies", true, x.isSound());
    }

    private static void spoil(Gambitvault x, String what, Object row, int place, int wrong) {
        long before = Array.getLong(row, place);
        if (row instanceof long[]) {
            Array.setLong(row, place, wrong);
        } else {
            Array.setInt(row, place, wrong);
        }
        check.due("spoiled: " + what, false, x.isSound());
        if (row instanceof long[]) {
            Array.setLong(row, place, before);
        } else {
            Array.setInt(row, place, (int) before);
        }
    }
}
