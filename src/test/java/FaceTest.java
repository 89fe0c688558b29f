import java.lang.reflect.Constructor;
import java.lang.reflect.Field;
import java.lang.reflect.Method;
import java.lang.reflect.Modifier;
import java.util.ArrayList;
import java.util.Collections;
import java.util.List;
import java.util.Set;
import java.util.TreeSet;

/** The public face: every constructor and method of the document as it stands there, and nothing else. */
public final class FaceTest {
    private static final String GAME = " throws IndexOutOfBoundsException";
    private static final String SQUARE = GAME + ",IllegalArgumentException";
    private static final String NOT_NOW = ",UnsupportedOperationException";
    private static final String NONE = ",NoSuchElementException";
    private static final String[] FACE = {
        "public Gambitvault()",
        "public int begin(int,int) throws IllegalArgumentException,IllegalStateException",
        "public char move(int,int,int)" + SQUARE + NOT_NOW,
        "public boolean isLegal(int,int,int)" + SQUARE,
        "public int legalMoves(int)" + GAME,
        "public boolean isInCheck(int)" + GAME,
        "public int seal(int,int,int)" + SQUARE + NOT_NOW,
        "public boolean open(int,int)" + GAME + NOT_NOW + NONE,
        "public boolean offer(int)" + GAME + NOT_NOW + ",IllegalStateException",
        "public int take(int)" + GAME + NOT_NOW + NONE,
        "public int resign(int)" + GAME + NOT_NOW,
        "public char annul(int)" + GAME + NOT_NOW,
        "public char stateOf(int)" + GAME,
        "public int result(int)" + GAME + NONE,
        "public boolean isWhite(int)" + GAME,
        "public int moves(int)" + GAME,
        "public int moveAt(int,int)" + GAME + NONE,
        "public char pieceAt(int,int)" + SQUARE,
        "public int quiet(int)" + GAME,
        "public int repeats(int)" + GAME,
        "public int seen(int)" + GAME,
        "public int finals(int)" + GAME,
        "public int points(int)" + GAME,
        "public boolean isLost(int,boolean)" + GAME,
        "public double rating(int) throws IllegalArgumentException",
        "public int copy(int)" + GAME,
        "public int copied(int)" + GAME,
        "public boolean hasGap(int)" + GAME,
        "public boolean isWhole(int)" + GAME,
        "public int damage(int,int)" + SQUARE,
        "public int gaps()",
        "public int games()",
        "public long allMoves()",
        "public float drawnShare() throws ArithmeticException",
        "public double meanRating()",
        "public boolean isSound()"};

    public static void main(String[] args) {
        Check check = new Check();
        Class<?> face = Gambitvault.class;
        check.due("modifiers", "public final", Modifier.toString(face.getModifiers()));
        check.due("superclass", Object.class, face.getSuperclass());
        check.due("members", sorted(List.of(FACE)), sorted(visibleMembers(face)));
        check.due("fields that are not private", 0, countVisibleFields(face));
        check.due("private methods with a public one's name", Set.of(), namesTwice(face));
        check.end("FaceTest");
    }

    private static List<String> visibleMembers(Class<?> face) {
        List<String> members = new ArrayList<>();
        for (Constructor<?> made : face.getDeclaredConstructors()) {
            members.add(plain(made.toString()));
        }
        for (Method method : face.getDeclaredMethods()) {
            if (!Modifier.isPrivate(method.getModifiers())) {
                members.add(plain(method.toString()));
            }
        }
        return members;
    }

    private static String plain(String signature) {
        return signature.replace("Gambitvault.", "").replace("java.lang.", "").replace("java.util.", "");
    }

    private static List<String> sorted(List<String> members) {
        List<String> copy = new ArrayList<>(members);
        Collections.sort(copy);
        return copy;
    }

    private static int countVisibleFields(Class<?> face) {
        int count = 0;
        for (Field field : face.getDeclaredFields()) {
            count += Modifier.isPrivate(field.getModifiers()) ? 0 : 1;
        }
        return count;
    }

    private static Set<String> namesTwice(Class<?> face) {
        Set<String> open = new TreeSet<>();
        for (Method method : face.getMethods()) {
            if (method.getDeclaringClass() == face) {
                open.add(method.getName());
            }
        }
        Set<String> inside = new TreeSet<>();
        List<Class<?>> all = new ArrayList<>(List.of(face.getDeclaredClasses()));
        all.add(face);
        for (Class<?> one : all) {
            for (Method method : one.getDeclaredMethods()) {
                if (one != face || Modifier.isPrivate(method.getModifiers())) {
                    inside.add(method.getName());
                }
            }
        }
        open.retainAll(inside);
        return open;
    }
}
