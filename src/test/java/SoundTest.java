import java.lang.reflect.Array;
import java.lang.reflect.Field;

/** That isSound looks at all it tells of: each part is spoiled from outside, and has to be found. */
public final class SoundTest {
    private static final Check check = new Check();

    public static void main(String[] args) throws ReflectiveOperationException {
        Gambitvault x = played();
        Object book = in(x, "book");
        Object openings = in(x, "openings");
        Object game = Array.get(in(x, "store"), 1);
        Object copy = in(game, "copy");
        spoilDouble(x, in(book, "ratings"), 7);
        int slot = usedSlot(openings);
        spoilInt(x, "games of a position", in(openings, "cameIn"), slot);
        spoilInt(x, "finals of a position", in(openings, "finalCounts"), slot);
        spoilInt(x, "points of a position", in(openings, "pointSums"), slot);
        spoilInt(x, "a copied move", in(copy, "moves"), 0);
        spoilField(x, "a copy that is too long", copy, "size", 4);
        check.end("SoundTest");
    }

    private static Gambitvault played() {
        Gambitvault x = new Gambitvault();
        for (int i = 0; i < 3; i++) {
            x.begin(i, i + 1);
            x.move(i, 1, 12);
            x.move(i, 34, 23);
            x.move(i, 12, 1);
            x.copy(i);
        }
        x.resign(0);
        x.annul(2);
        check.due("as played", true, x.isSound());
        return x;
    }

    private static Object in(Object holder, String name) throws ReflectiveOperationException {
        Field field = holder.getClass().getDeclaredField(name);
        field.setAccessible(true);
        return field.get(holder);
    }

    private static int usedSlot(Object openings) throws ReflectiveOperationException {
        int[] cameIn = (int[]) in(openings, "cameIn");
        int slot = 0;
        while (cameIn[slot] == 0) {
            slot++;
        }
        return slot;
    }

    private static void spoilInt(Gambitvault x, String what, Object row, int place) {
        int before = Array.getInt(row, place);
        Array.setInt(row, place, before ^ 64);
        check.due("spoiled: " + what, false, x.isSound());
        Array.setInt(row, place, before);
        check.due("mended: " + what, true, x.isSound());
    }

    private static void spoilDouble(Gambitvault x, Object row, int place) {
        double before = Array.getDouble(row, place);
        Array.setDouble(row, place, before + 0.5);
        check.due("spoiled: a rating", false, x.isSound());
        Array.setDouble(row, place, before);
        check.due("mended: a rating", true, x.isSound());
    }

    private static void spoilField(Gambitvault x, String what, Object holder, String name, int value)
            throws ReflectiveOperationException {
        Field field = holder.getClass().getDeclaredField(name);
        field.setAccessible(true);
        int before = field.getInt(holder);
        field.setInt(holder, value);
        check.due("spoiled: " + what, false, x.isSound());
        field.setInt(holder, before);
        check.due("mended: " + what, true, x.isSound());
    }
}
