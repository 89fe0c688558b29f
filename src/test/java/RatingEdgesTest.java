/** The document's "Ratings": each sentence of it that names a boundary, by a run of calls of its own. */
public final class RatingEdgesTest {
    private static final Check check = new Check();

    public static void main(String[] args) {
        atFirst();
        aGameThatBecomesFinal();
        inDoubles();
        atLeastAndAtMost();
        annulledAndPaidOutAnew();
        inTheOrderOfTheirEnds();
        theMean();
        check.end("RatingEdgesTest");
    }

    private static Script on(String sentence) {
        return new Script(check, "Ratings: " + sentence);
    }

    /** What white gets by the words of the document: with d, what white expects, and the change. */
    private static double change(double white, double black, int result) {
        double d = (black - white) / 400.0;
        d = Math.min(2.0, Math.max(-2.0, d));
        return 32.0 * (result / 2.0 - (0.5 - d / 4.0));
    }

    private static void atFirst() {
        Script run = on("1500.0 at first, of the members 0 to 9 and no other");
        for (int member = 0; member < 10; member++) {
            run.row("rating " + member + " = 1500.0");
        }
        run.rows("""
                rating -1 = throws.IllegalArgumentException
                rating 10 = throws.IllegalArgumentException
                rating lowest = throws.IllegalArgumentException
                rating highest = throws.IllegalArgumentException
                meanRating = 1500.0
                """);
    }

    private static void aGameThatBecomesFinal() {
        on("a game that becomes final changes both: white has won").rows("""
                begin 0 9 = 0
                line 0 112 = u
                rating 0 = 1500.0
                resign 0 = 0
                rating 0 = 1516.0
                rating 9 = 1484.0
                rating 1 = 1500.0
                rating 8 = 1500.0
                """);
        on("a game that becomes final changes both: black has won").rows("""
                begin 0 9 = 0
                resign 0 = 9
                rating 0 = 1484.0
                rating 9 = 1516.0
                """);
        on("a game that becomes final changes both: drawn, by equal ones by nothing").rows("""
                begin 0 9 = 0
                offer 0 = true
                take 0 = 1
                rating 0 = 1500.0
                rating 9 = 1500.0
                """);
        on("a game that becomes final by a move, by a sealed one too, is paid out once").rows("""
                begin 0 9 = 0
                line 0 112 3120 1220 3031 = u
                rating 0 = 1500.0
                move 0 20 24 = w
                rating 0 = 1516.0
                begin 9 0 = 1
                line 1 112 3120 1220 3031 = u
                seal 1 20 24 = 1
                open 1 9 = false
                rating 0 = 1516.0
                open 1 0 = true
                rating 0 = 1499.36
                rating 9 = 1500.64
                isSound = true
                """);
        on("a game that is adjourned or annulled before it is final changes none").rows("""
                begin 0 9 = 0
                begin 0 9 = 1
                seal 0 6 12 = 1
                annul 1 = u
                rating 0 = 1500.0
                annul 0 = a
                rating 0 = 1500.0
                rating 9 = 1500.0
                """);
    }

    private static void inDoubles() {
        Script run = on("the change is 32.0 * (result / 2.0 - what white expects), in doubles");
        double white = 1500.0;
        double black = 1500.0;
        for (int game = 0; game < 12; game++) {
            int result = game * 5 % 3;
            run.row("begin 3 4 = " + game);
            endBy(run, game, result);
            double change = change(white, black, result);
            white = white + change;
            black = black - change;
            run.row("rating 3 = " + white).row("rating 4 = " + black);
        }
        run.row("isSound = true");
        Script won = on("white wins 12 times: each time by less");
        double better = 1500.0;
        double worse = 1500.0;
        for (int game = 0; game < 12; game++) {
            won.row("begin 5 6 = " + game);
            endBy(won, game, 2);
            double change = change(better, worse, 2);
            better = better + change;
            worse = worse - change;
            won.row("rating 5 = " + better).row("rating 6 = " + worse);
        }
    }

    /** Ends a game with a result, in positions that no other ending here makes lost before a draw. */
    private static void endBy(Script run, int game, int result) {
        if (result == 1) {
            run.row("offer " + game).row("take " + game);
        } else if (result == 2) {
            run.row("line " + game + " 112 = u").row("resign " + game);
        } else {
            run.row("line " + game + " 112 2418 = u").row("resign " + game);
        }
    }

    private static void atLeastAndAtMost() {
        // No 12 games bring two ratings so far apart: they are put there from outside.
        apart("d at most 2.0: just that", 1500.0, 2300.0, 32.0, 0.0);
        apart("d at most 2.0: a little less", 1500.0, 2299.0, 32.0 * (1.0 - 0.000625), 32.0 * -0.000625);
        apart("d at most 2.0: a little more", 1500.0, 2301.0, 32.0, 0.0);
        apart("d at most 2.0: much more", 100.0, 4900.0, 32.0, 0.0);
        apart("d at least -2.0: just that", 2300.0, 1500.0, 0.0, -32.0);
        apart("d at least -2.0: a little more", 2299.0, 1500.0, 32.0 * 0.000625, 32.0 * (0.000625 - 1.0));
        apart("d at least -2.0: a little less", 2301.0, 1500.0, 0.0, -32.0);
        apart("d at least -2.0: much less", 4900.0, 100.0, 0.0, -32.0);
    }

    /** Looks at what white gets by a win and by a loss if the ratings are those. */
    private static void apart(String sentence, double white, double black, double byWin, double byLoss) {
        for (int result = 0; result <= 2; result += 2) {
            Script run = on(sentence + ", result " + result).row("begin 0 1 = 0");
            double[] ratings = Inside.ratings(run.club);
            ratings[0] = white;
            ratings[1] = black;
            endBy(run, 0, result);
            double due = result == 2 ? byWin : byLoss;
            check.due(sentence + ", white, result " + result, true, isNear(white + due, run.club.rating(0)));
            check.due(sentence + ", black, result " + result, true, isNear(black - due, run.club.rating(1)));
        }
    }

    private static boolean isNear(double due, double got) {
        return Math.abs(due - got) < 1e-6;
    }

    private static void annulledAndPaidOutAnew() {
        for (int annulled = 0; annulled < 3; annulled++) {
            Script run = on("ratings are those of all other final games: without game " + annulled);
            int[][] games = {{0, 1, 2}, {1, 2, 0}, {0, 2, 2}};
            double[] due = atFirst(10);
            for (int game = 0; game < 3; game++) {
                run.row("begin " + games[game][0] + " " + games[game][1] + " = " + game);
                endBy(run, game, games[game][2]);
                if (game != annulled) {
                    pay(due, games[game]);
                }
            }
            run.row("annul " + annulled + " = f");
            for (int member = 0; member < 10; member++) {
                run.row("rating " + member + " = " + due[member]);
            }
            run.row("isSound = true");
        }
        on("when all final games are annulled, ratings are as at first").rows("""
                begin 0 1 = 0
                begin 0 1 = 1
                resign 0 = 1
                resign 1 = 1
                annul 0 = f
                rating 0 = 1484.0
                rating 1 = 1516.0
                annul 1 = f
                rating 0 = 1500.0
                rating 1 = 1500.0
                meanRating = 1500.0
                """);
        on("when a game that is not final is annulled, ratings stay").rows("""
                begin 0 1 = 0
                begin 0 1 = 1
                begin 0 1 = 2
                resign 0 = 1
                seal 1 6 12 = 1
                annul 1 = a
                rating 0 = 1484.0
                annul 2 = u
                rating 0 = 1484.0
                rating 1 = 1516.0
                """);
    }

    private static void pay(double[] ratings, int[] game) {
        double change = change(ratings[game[0]], ratings[game[1]], game[2]);
        ratings[game[0]] = ratings[game[0]] + change;
        ratings[game[1]] = ratings[game[1]] - change;
    }

    private static void inTheOrderOfTheirEnds() {
        int[][] games = {{2, 0, 2}, {0, 1, 2}, {1, 2, 2}, {0, 2, 0}};
        int[] order = {2, 0, 3, 1};
        double[] due = atFirst(10);
        double[] byNumber = atFirst(10);
        Script run = on("paid out anew in the order in which they became final, not in that of their numbers");
        for (int[] game : games) {
            run.row("begin " + game[0] + " " + game[1]);
            pay(byNumber, game);
        }
        run.row("begin 0 1 = 4").row("resign 4 = 1");
        for (int game : order) {
            endBy(run, game, games[game][2]);
            pay(due, games[game]);
        }
        run.row("annul 4 = f");
        for (int member = 0; member < 3; member++) {
            check.due("the order shows in the rating of " + member, true, due[member] != byNumber[member]);
            run.row("rating " + member + " = " + due[member]);
        }
        run.row("begin 1 0 = 5");
        endBy(run, 5, 2);
        pay(due, new int[] {1, 0, 2});
        for (int member = 0; member < 3; member++) {
            run.row("rating " + member + " = " + due[member]);
        }
        run.row("isSound = true");
    }

    private static double[] atFirst(int members) {
        double[] ratings = new double[members];
        java.util.Arrays.fill(ratings, 1500.0);
        return ratings;
    }

    private static void theMean() {
        Script run = on("the mean of all members, added from the member 0 on");
        double[] due = atFirst(10);
        int unlike = 0;
        for (int i = 0; i < 12; i++) {
            int[] game = {i * 7 % 10, (i * 7 + 3 + i % 4) % 10, i % 5 == 0 ? 0 : 2};
            run.row("begin " + game[0] + " " + game[1] + " = " + i);
            endBy(run, i, game[2]);
            pay(due, game);
            double up = 0.0;
            double down = 0.0;
            for (int member = 0; member < 10; member++) {
                up = up + due[member];
                down = down + due[9 - member];
            }
            unlike += up != down ? 1 : 0;
            run.row("meanRating = " + up / 10.0);
        }
        check.due("the order in which they are added shows in some of these means", true, unlike > 0);
    }
}
