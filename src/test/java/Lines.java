/** Known lines of play, from the beginning on. */
final class Lines {
    // A move is told as 100 times the square from which, plus that to which.
    static final int[] WHITE_MATES = {112, 3120, 1220, 3031, 2024};
    static final int[] BLACK_MATES = {417, 3118, 1728, 3328, 1016, 2807};
    static final int[] STALEMATE = {
        814, 2620, 318, 2518, 112, 3312, 712, 3421, 1421, 2821, 415, 2015, 1015, 3533, 1, 3334, 131,
        3031, 504, 3404, 208, 3233, 1117, 2923};
    static final int[] WHITE_CROWNS = {915, 2620, 1521, 2418, 2128, 3423, 2835};
    static final int[] BLACK_CROWNS = {915, 2721, 1016, 2116, 309, 1609, 203, 904};
    static final int[] THRICE = {112, 3423, 1201, 2334, 112, 3423, 1201, 2334};
    // Its last move is the 40th in a row that moves no pawn and takes nothing, and mates.
    static final int[] MATE_AT_FORTY = {
        417, 3120, 1016, 2721, 310, 3031, 114, 3423, 504, 2334, 1422, 3327, 1, 2733, 1015, 3327, 2233,
        2722, 405, 3227, 1514, 2223, 203, 2322, 1412, 3132, 1219, 2031, 1704, 2223, 3322, 2317, 302,
        1723, 203, 2317, 302, 3118, 100, 3231, 2233, 3423, 201, 1703};
    // Behind the first four moves and behind all twelve, the two boards are mirrored.
    static final int[] TO_THE_MIRROR = {
        814, 2620, 915, 2721, 208, 3226, 302, 3332, 809, 2627, 903, 2733};

    private Lines() {
    }
}
