import java.lang.management.ManagementFactory;

/** That 512 calls stay far below the room that a run has, and make next to nothing once games are begun. */
public final class RoomTest {
    private static final long MOST_BYTES = 2_000_000L;

    public static void main(String[] args) {
        Check check = new Check();
        run();
        long first = allocated();
        Gambitvault x = run();
        long bytes = allocated() - first;
        System.out.println("a run of 512 calls takes " + bytes + " bytes");
        check.due("little room", true, bytes < MOST_BYTES);
        check.due("sound behind it", true, x.isSound());
        check.end("RoomTest");
    }

    private static Gambitvault run() {
        Gambitvault x = new Gambitvault();
        for (int i = 0; i < 12; i++) {
            x.begin(i % 10, (i + 1) % 10);
        }
        int[] tour = {112, 3423, 1201, 2334};
        for (int call = 12; call + 3 < 512; call += 3) {
            int game = call / 3 % 12;
            if (x.stateOf(game) == 'u') {
                int move = tour[x.moves(game) % 4];
                x.move(game, move / 100, move % 100);
            }
            x.isSound();
        }
        return x;
    }

    private static long allocated() {
        com.sun.management.ThreadMXBean bean =
                (com.sun.management.ThreadMXBean) ManagementFactory.getThreadMXBean();
        return bean.getThreadAllocatedBytes(Thread.currentThread().getId());
    }
}
