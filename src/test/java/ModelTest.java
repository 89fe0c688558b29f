import java.util.ArrayList;
import java.util.List;
import java.util.Map;
import java.util.Random;
import java.util.TreeMap;

/**
 * Long runs of calls, the same in each session, on an object of the class and on the model: each answer
 * has to be the same. A call that throws and yet changes something shows in the answers behind it.
 */
public final class ModelTest {
    private static final int RUNS = 1500;
    // Chance alone hardly comes to the ends of these.
    private static final int[][] SCRIPTS = {
        Lines.TO_THE_MIRROR, Lines.STALEMATE, Lines.MATE_AT_FORTY, Lines.BLACK_CROWNS, Lines.BLACK_MATES};

    private final Random random;
    private final int style;
    private final int[] script;
    private final Check check;
    private final Map<String, Integer> met;
    private final Gambitvault vault = new Gambitvault();
    private final Model model = new Model();
    private final StringBuilder told = new StringBuilder();
    private int calls = 0;

    private ModelTest(int seed, Check check, Map<String, Integer> met) {
        this.random = new Random(seed);
        this.style = seed % 6;
        this.script = SCRIPTS[seed / 6 % SCRIPTS.length];
        this.check = check;
        this.met = met;
    }

    public static void main(String[] args) {
        int runs = args.length > 0 ? Integer.parseInt(args[0]) : RUNS;
        Check check = new Check();
        Map<String, Integer> met = new TreeMap<>();
        for (int seed = 0; seed < runs && check.wrong() == 0; seed++) {
            new ModelTest(seed, check, met).run();
        }
        // Fewer runs need not come to all of these.
        if (runs >= RUNS) {
            for (String what : List.of("ends m", "ends s", "ends 3", "ends q", "own mirror", "lost for white",
                    "lost for black", "seen in three", "healed", "crowned")) {
                check.due("runs meet '" + what + "'", true, met.getOrDefault(what, 0) > 0);
            }
        }
        System.out.println("met: " + met);
        check.end("ModelTest");
    }

    private void run() {
        while (calls < Calls.MOST && check.wrong() == 0) {
            if (model.count() == 0 || random.nextInt(style == 4 ? 25 : 80) == 0) {
                call("begin", member(), member(), 0);
            } else if (random.nextInt(100) < 55) {
                play(someGame());
            } else if (random.nextInt(100) < 45) {
                change(someGame());
            } else {
                ask(someGame());
            }
        }
        if (check.wrong() > 0) {
            System.out.println("the run:" + told);
        }
    }

    private int member() {
        return random.nextInt(40) == 0 ? random.nextInt(14) - 2 : random.nextInt(10);
    }

    private int someGame() {
        if (random.nextInt(60) == 0) {
            return random.nextInt(16) - 2;
        }
        int newest = model.count() - 1;
        return random.nextInt(3) > 0 ? newest : random.nextInt(newest + 1);
    }

    private int someSquare() {
        return random.nextInt(40) == 0 ? random.nextInt(50) - 7 : random.nextInt(36);
    }

    private void play(int game) {
        boolean isLive = game >= 0 && game < model.count() && model.stateOf(game) == 'u';
        if (!isLive || random.nextInt(15) == 0) {
            call(random.nextBoolean() ? "move" : "seal", game, someSquare(), someSquare());
            if (game >= 0 && game < model.count() && model.stateOf(game) == 'a') {
                call("open", game, random.nextInt(10), 0);
            }
            return;
        }
        int move = chosen(game);
        boolean isCrowning = "Pp".indexOf(model.pieceAt(game, move / 100)) >= 0
                && (move % 100 < 6 || move % 100 >= 30);
        if (random.nextInt(12) == 0) {
            sealAndOpen(game, move);
        } else {
            call("move", game, move / 100, move % 100);
        }
        note("crowned", isCrowning);
        note("ends " + (model.stateOf(game) == 'f' ? model.whyFinal(game) : '-'), true);
        note("own mirror", model.mirrorsItself(game));
        if (random.nextInt(3) == 0) {
            askIndex(game);
        }
    }

    private void sealAndOpen(int game, int move) {
        call("seal", game, move / 100, move % 100);
        boolean isCopied = random.nextInt(3) > 0;
        if (isCopied) {
            call("copy", game, 0, 0);
        }
        if (random.nextInt(8) == 0) {
            call("damage", game, random.nextInt(9), 0);
        }
        for (int i = 0; i < 14 && model.stateOf(game) == 'a'; i++) {
            call("open", game, i < 4 ? random.nextInt(12) - 1 : i - 4, 0);
        }
        call("isWhole", game, 0, 0);
        note("healed", isCopied && model.isWhole(game));
    }

    private int chosen(int game) {
        if (style == 5 && model.moves(game) < script.length && model.legalOf(game).contains(script[model.moves(game)])) {
            return script[model.moves(game)];
        }
        List<Integer> all = model.legalOf(game);
        List<Integer> liked = new ArrayList<>();
        for (int move : all) {
            if (likes(game, move)) {
                liked.add(move);
            }
        }
        List<Integer> from = liked.isEmpty() || random.nextInt(40) == 0 ? all : liked;
        return from.get(style == 4 && random.nextInt(3) > 0 ? 0 : random.nextInt(from.size()));
    }

    /** What a style of play likes brings it to the ends that plain chance hardly finds. */
    private boolean likes(int game, int move) {
        char piece = model.pieceAt(game, move / 100);
        boolean isLoud = piece == 'P' || piece == 'p' || model.pieceAt(game, move % 100) != '.';
        String next = model.afterMove(game, move);
        switch (style) {
            case 1:
                return !isLoud && model.timesOf(game, next) > 0;
            case 2:
                return Model.legal(next).size() < 4 || model.pieceAt(game, move % 100) != '.';
            case 3:
                return !isLoud && model.timesOf(game, next) < 2 && !Model.legal(next).isEmpty();
            default:
                return true;
        }
    }

    private void change(int game) {
        switch (random.nextInt(12)) {
            case 0, 1 -> call("offer", game, 0, 0);
            case 2 -> call("take", game, 0, 0);
            case 3 -> call(style == 4 || random.nextInt(4) == 0 ? "resign" : "isSound", game, 0, 0);
            case 4 -> call(random.nextInt(4) == 0 ? "annul" : "gaps", game, 0, 0);
            case 5 -> call("open", game, member(), 0);
            case 6, 7 -> call("copy", game, 0, 0);
            case 8 -> call("damage", game, random.nextInt(20) - 2, 0);
            case 9 -> call("seal", game, someSquare(), someSquare());
            default -> call("begin", member(), member(), 0);
        }
    }

    private void askIndex(int game) {
        call("seen", game, 0, 0);
        call("finals", game, 0, 0);
        call("points", game, 0, 0);
        call("isLost", game, random.nextInt(2), 0);
        note("seen in three", model.seen(game) >= 3);
        note("lost for white", model.isLost(game, true));
        note("lost for black", model.isLost(game, false));
    }

    private void ask(int game) {
        String[] names = {
            "isLegal", "legalMoves", "isInCheck", "stateOf", "result", "isWhite", "moves", "moveAt",
            "pieceAt", "quiet", "repeats", "seen", "finals", "points", "isLost", "rating", "copied",
            "hasGap", "isWhole", "gaps", "games", "allMoves", "drawnShare", "meanRating", "isSound"};
        String name = names[random.nextInt(names.length)];
        int first = name.equals("rating") ? member() : game;
        int second = name.equals("moveAt") ? random.nextInt(40) - 2 : someSquare();
        call(name, first, second, someSquare());
    }

    private void note(String what, boolean isMet) {
        if (isMet) {
            met.merge(what, 1, Integer::sum);
        }
    }

    private void call(String name, int a, int b, int c) {
        calls++;
        if (calls > Calls.MOST) {
            return;
        }
        told.append(' ').append(name).append('(').append(a).append(", ").append(b).append(", ").append(c).append(')');
        Object want = Check.answerOf(() -> ofModel(name, a, b, c));
        Object got = Calls.answer(vault, name, a, b, c);
        check.due("call " + calls + " " + name + "(" + a + ", " + b + ", " + c + ")", want, got);
    }

    private Object ofModel(String name, int a, int b, int c) {
        return switch (name) {
            case "begin" -> model.begin(a, b);
            case "move" -> model.move(a, b, c);
            case "isLegal" -> model.isLegal(a, b, c);
            case "legalMoves" -> model.legalMoves(a);
            case "isInCheck" -> model.isInCheck(a);
            case "seal" -> model.seal(a, b, c);
            case "open" -> model.open(a, b);
            case "offer" -> model.offer(a);
            case "take" -> model.take(a);
            case "resign" -> model.resign(a);
            case "annul" -> model.annul(a);
            case "stateOf" -> model.stateOf(a);
            case "result" -> model.result(a);
            case "isWhite" -> model.isWhite(a);
            case "moves" -> model.moves(a);
            case "moveAt" -> model.moveAt(a, b);
            case "pieceAt" -> model.pieceAt(a, b);
            case "quiet" -> model.quiet(a);
            case "repeats" -> model.repeats(a);
            case "seen" -> model.seen(a);
            case "finals" -> model.finals(a);
            case "points" -> model.points(a);
            case "isLost" -> model.isLost(a, b == 1);
            case "rating" -> model.rating(a);
            case "copy" -> model.copy(a);
            case "copied" -> model.copied(a);
            case "hasGap" -> model.hasGap(a);
            case "isWhole" -> model.isWhole(a);
            case "damage" -> model.damage(a, b);
            case "gaps" -> model.gaps();
            case "games" -> model.games();
            case "allMoves" -> model.allMoves();
            case "drawnShare" -> model.drawnShare();
            case "meanRating" -> model.meanRating();
            default -> model.isSound();
        };
    }
}
