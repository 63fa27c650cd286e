import java.util.ArrayList;
import java.util.List;

/** What the draws of MAKING say of one level, each under the document's own name. */
final class Plan {
    final int[] left = new int[4];
    final int[] top = new int[4];
    final int[] width = new int[4];
    final int[] height = new int[4];
    /** By columns and rows. */
    final boolean[][] floor = new boolean[12][10];
    final int stairsX;
    final int stairsY;
    /** Kind, column and row, as they are drawn: also of those that are not made, since one is there already. */
    final List<int[]> monsters = new ArrayList<>();
    final List<int[]> things = new ArrayList<>();

    private long making;

    Plan(int seed, int d) {
        making = Sums.making(seed, d);
        for (int i = 0; i < 4; i++) {
            room(i);
        }
        way(0, 1);
        way(1, 3);
        way(3, 2);
        stairsX = left[2] + draw(width[2]);
        stairsY = top[2] + draw(height[2]);
        for (int t = 0; t < 2 + d; t++) {
            int kind = draw(3);
            monsters.add(inRoom(kind, 1 + draw(3)));
        }
        for (int t = 0; t < 3; t++) {
            int kind = draw(4);
            things.add(inRoom(kind, draw(4)));
        }
    }

    private int draw(int n) {
        making = Sums.drawn(making);
        return Sums.answer(making, n);
    }

    private void room(int i) {
        width[i] = 2 + draw(3);
        height[i] = 2 + draw(2);
        left[i] = 6 * (i % 2) + 1 + draw(5 - width[i]);
        top[i] = 5 * (i / 2) + 1 + draw(4 - height[i]);
        for (int x = left[i]; x < left[i] + width[i]; x++) {
            for (int y = top[i]; y < top[i] + height[i]; y++) {
                floor[x][y] = true;
            }
        }
    }

    private void way(int from, int to) {
        int a = centreX(from);
        int b = centreY(from);
        int c = centreX(to);
        int d = centreY(to);
        boolean rowFirst = draw(2) == 0;
        for (int x = 0; x < 12; x++) {
            for (int y = 0; y < 10; y++) {
                boolean inColumns = isBetween(a, x, c);
                boolean inRows = isBetween(b, y, d);
                boolean byRow = y == (rowFirst ? b : d) && inColumns;
                boolean byColumn = x == (rowFirst ? c : a) && inRows;
                floor[x][y] |= byRow || byColumn;
            }
        }
    }

    private static boolean isBetween(int oneEnd, int number, int otherEnd) {
        return oneEnd <= number && number <= otherEnd || otherEnd <= number && number <= oneEnd;
    }

    private int[] inRoom(int kind, int room) {
        int x = left[room] + draw(width[room]);
        int y = top[room] + draw(height[room]);
        return new int[] {kind, x, y};
    }

    int centreX(int i) {
        return left[i] + width[i] / 2;
    }

    int centreY(int i) {
        return top[i] + height[i] / 2;
    }
}
