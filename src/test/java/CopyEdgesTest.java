/** The document's "Copies": each sentence of it that names a boundary, by a run of calls of its own. */
public final class CopyEdgesTest {
    private static final Check check = new Check();

    public static void main(String[] args) {
        emptyAtFirst();
        copying();
        noSealedMove();
        adjournedCopies();
        annulledCopies();
        gapsThatHeal();
        gapsThatAreGone();
        damaging();
        wholeCopies();
        countedGaps();
        check.end("CopyEdgesTest");
    }

    private static Script on(String sentence) {
        return new Script(check, "Copies: " + sentence).row("begin 0 1 = 0");
    }

    private static void emptyAtFirst() {
        on("a copy of each game, empty at first").rows("""
                copied 0 = 0
                hasGap 0 = false
                isWhole 0 = true
                gaps = 0
                line 0 612 = u
                copied 0 = 0
                isWhole 0 = false
                copied 1 = throws.IndexOutOfBoundsException
                begin 0 1 = 1
                copied 1 = 0
                """);
    }

    private static void copying() {
        on("copying brings the copy to the moves that were made: none").rows("""
                copy 0 = 0
                copied 0 = 0
                isWhole 0 = true
                """);
        on("copying brings the copy to the moves that were made: all, then what is new, then nothing").rows("""
                line 0 612 2418 713 = u
                copy 0 = 3
                copied 0 = 3
                line 0 2519 = u
                copied 0 = 3
                copy 0 = 1
                copy 0 = 0
                copied 0 = 4
                """);
        on("copying brings the copy of one game, not of others").rows("""
                begin 0 1 = 1
                line 0 612 = u
                line 1 713 = u
                copy 1 = 1
                copied 0 = 0
                copied 1 = 1
                """);
        on("copying what is damaged brings what is gone").rows("""
                line 0 612 2418 713 = u
                copy 0 = 3
                damage 0 1 = 2
                copy 0 = 2
                isWhole 0 = true
                isSound = true
                """);
        on("copying a final game, the last move too").rows("""
                line 0 112 3120 1220 3031 2024 = w
                copy 0 = 5
                isWhole 0 = true
                hasGap 0 = false
                """);
    }

    private static void noSealedMove() {
        on("no sealed move is in a copy: not copied, not by one who opens it").rows("""
                line 0 612 = u
                seal 0 24 18 = 1
                copy 0 = 1
                copied 0 = 1
                open 0 0 = false
                copied 0 = 1
                copy 0 = 0
                copied 0 = 1
                hasGap 0 = true
                """);
    }

    private static void adjournedCopies() {
        on("if it is adjourned, the copy has a gap then: not before it is copied").rows("""
                line 0 612 = u
                copy 0 = 1
                seal 0 24 18 = 1
                hasGap 0 = false
                isWhole 0 = true
                copy 0 = 0
                hasGap 0 = true
                isWhole 0 = false
                """);
        on("otherwise none: under way, final").rows("""
                line 0 612 = u
                copy 0 = 1
                hasGap 0 = false
                resign 0 = 0
                copy 0 = 0
                hasGap 0 = false
                """);
        on("if it is adjourned without any move, the copy is empty and has a gap").rows("""
                seal 0 6 12 = 1
                copy 0 = 0
                copied 0 = 0
                hasGap 0 = true
                isWhole 0 = false
                """);
    }

    private static void annulledCopies() {
        on("also one that is annulled: its moves are copied").rows("""
                line 0 612 2418 = u
                annul 0 = u
                copied 0 = 0
                isWhole 0 = false
                copy 0 = 2
                copied 0 = 2
                hasGap 0 = false
                isWhole 0 = true
                """);
        on("annulling changes no copy: one with a gap").rows("""
                line 0 612 = u
                seal 0 24 18 = 1
                copy 0 = 1
                annul 0 = a
                copied 0 = 1
                hasGap 0 = true
                isWhole 0 = false
                gaps = 1
                isSound = true
                """);
        on("annulling changes no copy: one that has not all moves").rows("""
                line 0 612 = u
                copy 0 = 1
                line 0 2418 = u
                annul 0 = u
                copied 0 = 1
                isWhole 0 = false
                """);
        on("annulled when it was adjourned, it is not adjourned: copied, it has no gap").rows("""
                line 0 612 = u
                seal 0 24 18 = 1
                annul 0 = a
                copy 0 = 1
                hasGap 0 = false
                isWhole 0 = true
                """);
        on("a gap of what is annulled goes when it is copied over").rows("""
                seal 0 6 12 = 1
                copy 0 = 0
                annul 0 = a
                hasGap 0 = true
                copy 0 = 0
                hasGap 0 = false
                isWhole 0 = true
                """);
        on("a gap of what is annulled goes when it is damaged").rows("""
                seal 0 6 12 = 1
                copy 0 = 0
                annul 0 = a
                damage 0 0 = 0
                hasGap 0 = false
                isWhole 0 = true
                """);
    }

    private static void gapsThatHeal() {
        on("when the sealed move is made, a copy with a gap gets it, and has none any more").rows("""
                line 0 612 = u
                seal 0 24 18 = 1
                copy 0 = 1
                open 0 1 = false
                hasGap 0 = true
                copied 0 = 1
                open 0 0 = true
                hasGap 0 = false
                copied 0 = 2
                isWhole 0 = true
                copy 0 = 0
                isSound = true
                """);
        on("when the sealed move is made: copied between the two who open it").rows("""
                seal 0 6 12 = 1
                open 0 1 = false
                copy 0 = 0
                hasGap 0 = true
                open 0 0 = true
                hasGap 0 = false
                copied 0 = 1
                isWhole 0 = true
                """);
        on("when the sealed move is made: one that ends the game, too").rows("""
                line 0 112 3120 1220 3031 = u
                seal 0 20 24 = 1
                copy 0 = 4
                open 0 0 = false
                open 0 1 = true
                stateOf 0 = f
                copied 0 = 5
                isWhole 0 = true
                hasGap 0 = false
                """);
        on("a copy without a gap does not get it: not copied").rows("""
                line 0 612 = u
                seal 0 24 18 = 1
                open 0 0 = false
                open 0 1 = true
                copied 0 = 0
                isWhole 0 = false
                """);
        on("a copy without a gap does not get it: copied before it was sealed").rows("""
                line 0 612 = u
                copy 0 = 1
                seal 0 24 18 = 1
                open 0 0 = false
                open 0 1 = true
                copied 0 = 1
                hasGap 0 = false
                isWhole 0 = false
                copy 0 = 1
                """);
        on("it gets the sealed move, no later one").rows("""
                seal 0 6 12 = 1
                copy 0 = 0
                open 0 0 = false
                open 0 1 = true
                line 0 2418 = u
                copied 0 = 1
                isWhole 0 = false
                """);
        on("a second gap heals as the first one did").rows("""
                seal 0 6 12 = 1
                copy 0 = 0
                open 0 0 = false
                open 0 1 = true
                seal 0 24 18 = 1
                hasGap 0 = false
                copy 0 = 0
                hasGap 0 = true
                open 0 0 = false
                open 0 1 = true
                copied 0 = 2
                isWhole 0 = true
                """);
        on("the gap of one game does not heal by another one").rows("""
                begin 0 1 = 1
                seal 0 6 12 = 1
                seal 1 6 12 = 2
                copy 0 = 0
                copy 1 = 0
                gaps = 2
                open 1 0 = false
                open 1 1 = true
                hasGap 0 = true
                hasGap 1 = false
                copied 0 = 0
                gaps = 1
                """);
    }

    private static void gapsThatAreGone() {
        on("a gap is copied over while it is adjourned: it is there as before").rows("""
                seal 0 6 12 = 1
                copy 0 = 0
                copy 0 = 0
                hasGap 0 = true
                gaps = 1
                open 0 0 = false
                open 0 1 = true
                copied 0 = 1
                """);
        on("damaged while it is adjourned, it has no gap, and does not heal").rows("""
                line 0 612 2418 = u
                seal 0 7 13 = 1
                copy 0 = 2
                damage 0 2 = 0
                hasGap 0 = false
                copied 0 = 2
                isWhole 0 = true
                open 0 0 = false
                open 0 1 = true
                copied 0 = 2
                isWhole 0 = false
                """);
        on("damaged, and copied over while it is adjourned, it has a gap, and heals").rows("""
                line 0 612 2418 = u
                seal 0 7 13 = 1
                copy 0 = 2
                damage 0 1 = 1
                copy 0 = 1
                hasGap 0 = true
                open 0 0 = false
                open 0 1 = true
                copied 0 = 3
                isWhole 0 = true
                isSound = true
                """);
    }

    private static void damaging() {
        on("it keeps the first moves only, perhaps all: all, and one more").rows("""
                line 0 612 2418 713 = u
                copy 0 = 3
                damage 0 highest = 0
                copied 0 = 3
                damage 0 4 = 0
                copied 0 = 3
                damage 0 3 = 0
                copied 0 = 3
                isWhole 0 = true
                damage 0 2 = 1
                copied 0 = 2
                isWhole 0 = false
                damage 0 3 = 0
                copied 0 = 2
                """);
        on("it keeps the first moves only: none").rows("""
                line 0 612 2418 713 = u
                copy 0 = 3
                damage 0 0 = 3
                copied 0 = 0
                damage 0 0 = 0
                isSound = true
                """);
        on("it keeps 0 or more: not less").rows("""
                line 0 612 = u
                copy 0 = 1
                damage 0 -1 = throws.IllegalArgumentException
                damage 0 lowest = throws.IllegalArgumentException
                copied 0 = 1
                """);
        on("the first moves are kept, and the game's moves stay").rows("""
                line 0 612 2418 713 = u
                copy 0 = 3
                damage 0 1 = 2
                moves 0 = 3
                moveAt 0 2 = 713
                isSound = true
                """);
        on("damaged, it has no gap: all kept, and more than all").rows("""
                line 0 612 = u
                seal 0 24 18 = 1
                copy 0 = 1
                damage 0 1 = 0
                hasGap 0 = false
                copy 0 = 0
                hasGap 0 = true
                damage 0 highest = 0
                hasGap 0 = false
                copied 0 = 1
                """);
        on("a refused damage leaves the gap").rows("""
                seal 0 6 12 = 1
                copy 0 = 0
                damage 0 -1 = throws.IllegalArgumentException
                hasGap 0 = true
                """);
    }

    private static void wholeCopies() {
        on("whole if it has all moves that were made: one less is not").rows("""
                line 0 612 2418 = u
                copy 0 = 2
                isWhole 0 = true
                damage 0 1 = 1
                isWhole 0 = false
                copy 0 = 1
                isWhole 0 = true
                line 0 713 = u
                isWhole 0 = false
                """);
        on("whole if it has no gap: with all moves that were made, and one, it is not").rows("""
                line 0 612 = u
                copy 0 = 1
                seal 0 24 18 = 1
                isWhole 0 = true
                copy 0 = 0
                copied 0 = 1
                isWhole 0 = false
                """);
    }

    private static void countedGaps() {
        Script run = new Script(check, "Copies: how many have a gap, 0 to 12").row("gaps = 0");
        for (int game = 0; game < 12; game++) {
            run.row("begin 0 1 = " + game).row("seal " + game + " 6 12 = " + (game + 1));
            run.row("gaps = " + game).row("copy " + game + " = 0").row("gaps = " + (game + 1));
        }
        run.rows("""
                annul 0 = a
                gaps = 12
                copy 0 = 0
                gaps = 11
                damage 1 0 = 0
                gaps = 10
                open 2 0 = false
                gaps = 10
                open 2 1 = true
                gaps = 9
                isSound = true
                """);
    }
}
