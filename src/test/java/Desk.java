import java.util.ArrayList;
import java.util.List;

/**
 * A DungeonDesk that may be asked without end: the document promises 512 calls of one object, so
 * behind them a new object is brought to the same state by the calls that changed it.
 */
final class Desk {
    private static final int PROMISED = 512;

    private final int seed;
    private final List<int[]> changes = new ArrayList<>();
    private DungeonDesk desk;
    private int calls = 0;

    Desk(int seed) {
        this.seed = seed;
        desk = new DungeonDesk(seed);
    }

    /** A new game in which these keys were pressed. */
    static Desk after(int seed, String keys) {
        Desk desk = new Desk(seed);
        desk.keys(keys);
        return desk;
    }

    private DungeonDesk fresh() {
        if (calls >= PROMISED) {
            desk = new DungeonDesk(seed);
            for (int[] change : changes) {
                if (change[0] == 0) {
                    desk.key(change[1]);
                } else {
                    desk.rewind(change[1]);
                }
            }
            calls = changes.size();
        }
        calls++;
        return desk;
    }

    int key(int c) {
        int answer = fresh().key(c);
        if (answer != DungeonDesk.REFUSED) {
            changes.add(new int[] {0, c});
        }
        return answer;
    }

    /** Presses each key of the text and answers what the last one answered. */
    int keys(String text) {
        int answer = DungeonDesk.REFUSED;
        for (char c : text.toCharArray()) {
            answer = key(c);
        }
        return answer;
    }

    int rewind(int n) {
        int answer = fresh().rewind(n);
        if (answer != DungeonDesk.REFUSED) {
            changes.add(new int[] {1, n});
        }
        return answer;
    }

    int cell(int x, int y, int what) {
        return fresh().cell(x, y, what);
    }

    int monster(int i, int what) {
        return fresh().monster(i, what);
    }

    int player(int what) {
        return fresh().player(what);
    }

    int recorded(int k) {
        return fresh().recorded(k);
    }

    long hash() {
        return fresh().hash();
    }

    int count(int what) {
        return fresh().count(what);
    }

    /** The seed and the calls that changed it, so that a wrong answer can be asked for again. */
    String told() {
        StringBuilder text = new StringBuilder("seed " + seed + " behind \"");
        for (int[] change : changes) {
            text.append(change[0] == 0 ? String.valueOf((char) change[1]) : " rewind(" + change[1] + ") ");
        }
        return text.append('"').toString();
    }

    /** How many calls have changed it: a test keeps this below what is promised. */
    int changes() {
        return changes.size();
    }
}
