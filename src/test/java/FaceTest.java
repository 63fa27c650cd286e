import java.lang.reflect.Field;
import java.lang.reflect.Method;
import java.lang.reflect.Modifier;
import java.util.Set;
import java.util.TreeSet;

/** The public face: the document's members and no others, and calls that never throw. */
public final class FaceTest {
    private static final Check check = new Check();
    private static final int[] ODD = {Integer.MIN_VALUE, Integer.MIN_VALUE + 1, -121, -3, -2, -1, 0, 1, 2, 3, 4, 5, 6,
        7, 9, 10, 11, 12, 13, 14, 46, 62, 97, 98, 99, 100, 103, 104, 106, 107, 108, 119, 120, 511, 512, 513,
        Integer.MAX_VALUE - 1, Integer.MAX_VALUE};

    public static void main(String[] args) {
        membersAreTheDocuments();
        noCallThrows();
        noCallThrowsWhenTheRecordIsFull();
        check.due("REFUSED", DungeonDesk.REFUSED, -1);
        check.due("NONE", DungeonDesk.NONE, -2);
        check.end();
    }

    private static void membersAreTheDocuments() {
        Set<String> due = Set.of("REFUSED", "NONE", "int key(int)", "int rewind(int)", "int cell(int, int, int)",
            "int monster(int, int)", "int player(int)", "int recorded(int)", "long hash()", "int count(int)");
        Set<String> names = Set.of("key", "rewind", "cell", "monster", "player", "recorded", "hash", "count");
        Set<String> open = new TreeSet<>();
        for (Field field : DungeonDesk.class.getDeclaredFields()) {
            if (!Modifier.isPrivate(field.getModifiers())) {
                open.add(field.getName());
            }
        }
        for (Method method : DungeonDesk.class.getDeclaredMethods()) {
            if (!Modifier.isPrivate(method.getModifiers())) {
                open.add(method.getReturnType() + " " + method.toString().replaceAll(".*\\.(\\w+\\()", "$1")
                    .replace(",", ", "));
            } else {
                check.holds("private " + method.getName(), !names.contains(method.getName()));
            }
        }
        check.holds("open members are " + open, open.equals(due));
        check.due("constructors", DungeonDesk.class.getDeclaredConstructors().length, 1);
        check.holds("final", Modifier.isFinal(DungeonDesk.class.getModifiers()));
    }

    private static void noCallThrows() {
        for (int seed = -60; seed < 60; seed++) {
            DungeonDesk desk = new DungeonDesk(seed * 35791394);
            for (int number : ODD) {
                askAll(desk, number);
                desk.rewind(number);
                desk.key(number);
            }
        }
        check.holds("no call threw", true);
    }

    private static void askAll(DungeonDesk desk, int number) {
        desk.player(number);
        desk.recorded(number);
        desk.count(number);
        desk.hash();
        for (int other : ODD) {
            desk.monster(number, other);
            desk.cell(number, other, 0);
            desk.cell(other, number, 5);
            desk.cell(other, 3, number);
        }
    }

    /** Answers are free there, but they must come. */
    private static void noCallThrowsWhenTheRecordIsFull() {
        DungeonDesk desk = new DungeonDesk(1);
        for (int k = 0; k < 2000; k++) {
            desk.key(".hl.kj".charAt(k % 6));
        }
        desk.rewind(desk.count(1));
        for (int number : ODD) {
            askAll(desk, number);
        }
        check.holds("no call threw", true);
    }
}
