import java.util.StringTokenizer;

/**
 * Calls on one new object, told as rows, for one sentence of the document. A row is a method's name, its
 * numbers, "=" and the answer that is due; a row without "=" must not throw. "line" makes moves in a game,
 * each told as 100 times the square from which, plus that to which: all but the last one leave it going on.
 */
final class Script {
    private static final String GOES_ON = "u";

    private final Check check;
    private final String sentence;
    final Gambitvault club = new Gambitvault();
    private int calls = 0;

    Script(Check check, String sentence) {
        this.check = check;
        this.sentence = sentence;
    }

    /** Runs the rows of a text, one on each line of it. */
    Script rows(String text) {
        text.lines().map(String::strip).filter(row -> !row.isEmpty()).forEach(this::row);
        return this;
    }

    Script row(String row) {
        String[] sides = row.split("=");
        String due = sides.length > 1 ? sides[1].strip() : null;
        StringTokenizer words = new StringTokenizer(sides[0]);
        String name = words.nextToken();
        int[] numbers = new int[words.countTokens()];
        for (int i = 0; i < numbers.length; i++) {
            numbers[i] = number(words.nextToken());
        }
        if (name.equals("line")) {
            line(numbers, due);
        } else {
            check.due(row + ": as many numbers as it takes", Calls.numbersOf(name), numbers.length);
            look(row, due, answer(name, at(numbers, 0), at(numbers, 1), at(numbers, 2)));
        }
        return this;
    }

    String answer(String name, int a, int b, int c) {
        calls++;
        check.due(sentence + ": an object is used for 512 calls", true, calls <= Calls.MOST);
        return String.valueOf(Calls.answer(club, name, a, b, c));
    }

    int calls() {
        return calls;
    }

    private void line(int[] numbers, String due) {
        for (int i = 1; i < numbers.length; i++) {
            int move = numbers[i];
            String wanted = i < numbers.length - 1 ? GOES_ON : due;
            look("move " + numbers[0] + " " + move / 100 + " " + move % 100, wanted,
                    answer("move", numbers[0], move / 100, move % 100));
        }
    }

    private void look(String row, String due, String got) {
        String what = sentence + ": call " + calls + ", " + row;
        if (due != null) {
            check.due(what, due, got);
        } else {
            check.due(what + ": it throws nothing", false, got.startsWith("throws."));
        }
    }

    private static int number(String word) {
        return word.equals("lowest") ? Integer.MIN_VALUE
                : word.equals("highest") ? Integer.MAX_VALUE : Integer.parseInt(word);
    }

    private static int at(int[] numbers, int index) {
        return index < numbers.length ? numbers[index] : 0;
    }
}
