import java.math.BigInteger;
import java.util.ArrayList;
import java.util.List;

/**
 * The document once more, sentence by sentence and without regard to speed, written apart from the
 * program, so that ModelTest can hold the two against each other.
 */
final class Model {
    static final int[][] NEIGHBOURS = {{0, -1}, {1, 0}, {0, 1}, {-1, 0}};

    static final class Beast {
        final int kind;
        int x;
        int y;
        int health;
        int energy = 0;
        boolean awake = false;
        boolean gone = false;

        Beast(int kind, int x, int y) {
            this.kind = kind;
            this.x = x;
            this.y = y;
            this.health = new int[] {3, 6, 2}[kind];
        }

        int speed() {
            return kind == 0 ? 8 : kind == 1 ? 6 : 14;
        }

        int hit() {
            return kind == 1 ? 2 : 1;
        }
    }

    /** What happened at all, so that a test can tell that it went there. */
    static final class Seen {
        int orcFled;
        int orcCornered;
        int orcHit;
        int batHit;
        int ratHit;
        int batStayed;
        int deadBelowZero;
        int deadWithKill;
        int deadBeforeOthers;
        int killed;
        int struckAsleep;
        int fullBag;
        int turnWithoutTick;
        int descendWithEnergy20;
        int hasteRenewed;
        int monsterOnThing;
        int monsterOnStairs;
        int[] used = new int[4];
        int healthCapped;
        int[] deadOnLevel = new int[4];
        int won;
    }

    final int seed;
    final Seen seen;
    long play;
    int depth;
    boolean[][] floor;
    int[][] thing;
    boolean[][] known;
    int stairsX;
    int stairsY;
    List<Beast> beasts = new ArrayList<>();
    int x;
    int y;
    int health = 10;
    int hit = 1;
    int haste = 0;
    int energy = 10;
    boolean dead = false;
    boolean won = false;
    List<Integer> bag = new ArrayList<>();
    List<Integer> record = new ArrayList<>();
    int ticks = 0;
    int kills = 0;

    Model(int seed, Seen seen) {
        this.seed = seed;
        this.seen = seen;
        play = seed;
        make(1);
        learn();
    }

    private int play(int n) {
        play = Sums.drawn(play);
        return Sums.answer(play, n);
    }

    void make(int d) {
        Plan plan = new Plan(seed, d);
        depth = d;
        floor = plan.floor;
        stairsX = plan.stairsX;
        stairsY = plan.stairsY;
        x = plan.centreX(0);
        y = plan.centreY(0);
        known = new boolean[12][10];
        beasts = new ArrayList<>();
        for (int[] drawn : plan.monsters) {
            if (beastAt(drawn[1], drawn[2]) == null) {
                beasts.add(new Beast(drawn[0], drawn[1], drawn[2]));
            }
        }
        thing = new int[12][10];
        for (int[] drawn : plan.things) {
            boolean stairs = drawn[1] == stairsX && drawn[2] == stairsY;
            if (thing[drawn[1]][drawn[2]] == 0 && !stairs) {
                thing[drawn[1]][drawn[2]] = 1 + drawn[0];
            }
        }
    }

    Beast beastAt(int bx, int by) {
        for (Beast m : beasts) {
            if (!m.gone && m.x == bx && m.y == by) {
                return m;
            }
        }
        return null;
    }

    boolean clear(int ax, int ay, int bx, int by) {
        double dx = bx - ax;
        double dy = by - ay;
        double n = Math.max(Math.abs(dx), Math.abs(dy));
        for (int k = 1; k <= n - 1; k++) {
            int cx = ax + (int) Math.floor((2 * k * dx + n) / (2 * n));
            int cy = ay + (int) Math.floor((2 * k * dy + n) / (2 * n));
            if (!floor[cx][cy]) {
                return false;
            }
        }
        return true;
    }

    boolean near(int ax, int ay, int bx, int by) {
        return Math.abs(ax - bx) <= 4 && Math.abs(ay - by) <= 4;
    }

    boolean isSeen(int cx, int cy) {
        return near(x, y, cx, cy) && clear(x, y, cx, cy);
    }

    private void learn() {
        for (int i = 0; i < 12; i++) {
            for (int j = 0; j < 10; j++) {
                known[i][j] |= isSeen(i, j);
            }
        }
    }

    /** By letting every cell ask its neighbours until nothing changes. */
    int[][] distances() {
        int far = 1000;
        int[][] d = new int[12][10];
        for (int[] column : d) {
            java.util.Arrays.fill(column, far);
        }
        d[x][y] = 0;
        for (boolean changed = true; changed; ) {
            changed = false;
            for (int i = 0; i < 12; i++) {
                for (int j = 0; j < 10; j++) {
                    for (int[] to : NEIGHBOURS) {
                        int p = i + to[0];
                        int q = j + to[1];
                        if (floor[i][j] && p >= 0 && p < 12 && q >= 0 && q < 10 && floor[p][q]
                                && d[p][q] + 1 < d[i][j]) {
                            d[i][j] = d[p][q] + 1;
                            changed = true;
                        }
                    }
                }
            }
        }
        return d;
    }

    int key(int c) {
        if (dead || won || "kljh.gabcd>".indexOf(c) < 0) {
            return -1;
        }
        record.add(c);
        int killsBefore = kills;
        boolean blocked;
        if ("kljh".indexOf(c) >= 0) {
            blocked = !walk(NEIGHBOURS["kljh".indexOf(c)]);
        } else if (c == 'g') {
            blocked = !grab();
        } else if (c >= 'a' && c <= 'd') {
            blocked = !use(c - 'a');
        } else if (c == '>') {
            blocked = !down();
        } else {
            blocked = false;
        }
        if (!blocked && c != '>') {
            time();
        }
        learn();
        if (blocked) {
            return 0;
        }
        if (won) {
            seen.won++;
            return 4;
        }
        if (dead) {
            seen.deadOnLevel[depth]++;
            seen.deadBelowZero += health < 0 ? 1 : 0;
            seen.deadWithKill += kills > killsBefore ? 1 : 0;
            return 3;
        }
        return kills > killsBefore ? 2 : 1;
    }

    private boolean walk(int[] to) {
        int nx = x + to[0];
        int ny = y + to[1];
        if (!floor[nx][ny]) {
            return false;
        }
        Beast m = beastAt(nx, ny);
        if (m == null) {
            x = nx;
            y = ny;
            return true;
        }
        seen.struckAsleep += m.awake ? 0 : 1;
        m.awake = true;
        m.health -= hit;
        if (m.health <= 0) {
            m.gone = true;
            kills++;
            seen.killed++;
        }
        return true;
    }

    private boolean grab() {
        if (thing[x][y] != 0 && bag.size() == 4) {
            seen.fullBag++;
        }
        if (thing[x][y] == 0 || bag.size() == 4) {
            return false;
        }
        bag.add(thing[x][y] - 1);
        thing[x][y] = 0;
        return true;
    }

    private boolean use(int k) {
        if (k >= bag.size()) {
            return false;
        }
        int kind = bag.remove(k);
        seen.used[kind]++;
        if (kind == 0) {
            seen.healthCapped += health > 5 ? 1 : 0;
            health = Math.min(10, health + 5);
        } else if (kind == 1) {
            hit++;
        } else if (kind == 2) {
            List<int[]> free = new ArrayList<>();
            for (int j = 0; j < 10; j++) {
                for (int i = 0; i < 12; i++) {
                    if (floor[i][j] && beastAt(i, j) == null) {
                        free.add(new int[] {i, j});
                    }
                }
            }
            int[] there = free.get(play(free.size()));
            x = there[0];
            y = there[1];
        } else {
            seen.hasteRenewed += haste > 0 ? 1 : 0;
            haste = 6;
        }
        return true;
    }

    private boolean down() {
        if (x != stairsX || y != stairsY) {
            return false;
        }
        if (depth == 3) {
            won = true;
            return true;
        }
        seen.descendWithEnergy20 += energy > 10 ? 1 : 0;
        make(depth + 1);
        energy = 10;
        return true;
    }

    private void time() {
        energy -= 10;
        seen.turnWithoutTick += energy >= 10 ? 1 : 0;
        while (energy < 10 && !dead) {
            ticks++;
            if (haste > 0) {
                energy += 20;
                haste--;
            } else {
                energy += 10;
            }
            for (Beast m : beasts) {
                if (m.gone) {
                    continue;
                }
                seen.deadBeforeOthers += dead ? 1 : 0;
                m.energy += m.speed();
                while (m.energy >= 10 && !dead) {
                    m.energy -= 10;
                    act(m);
                    seen.monsterOnThing += thing[m.x][m.y] != 0 ? 1 : 0;
                    seen.monsterOnStairs += m.x == stairsX && m.y == stairsY ? 1 : 0;
                }
            }
        }
    }

    private void act(Beast m) {
        if (!m.awake) {
            m.awake = near(m.x, m.y, x, y) && clear(m.x, m.y, x, y);
            return;
        }
        if (m.kind == 2) {
            int[] to = NEIGHBOURS[play(4)];
            int nx = m.x + to[0];
            int ny = m.y + to[1];
            if (nx == x && ny == y) {
                seen.batHit++;
                hurt(m);
            } else if (floor[nx][ny] && beastAt(nx, ny) == null) {
                m.x = nx;
                m.y = ny;
            } else {
                seen.batStayed++;
            }
            return;
        }
        int[][] d = distances();
        boolean flees = m.kind == 1 && m.health <= 2;
        int[] taken = null;
        for (int[] to : NEIGHBOURS) {
            int nx = m.x + to[0];
            int ny = m.y + to[1];
            if (!floor[nx][ny] || beastAt(nx, ny) != null) {
                continue;
            }
            if (taken == null || (flees ? d[nx][ny] > d[taken[0]][taken[1]] : d[nx][ny] < d[taken[0]][taken[1]])) {
                taken = new int[] {nx, ny};
            }
        }
        if (taken == null) {
            return;
        }
        int own = d[m.x][m.y];
        int there = d[taken[0]][taken[1]];
        if (flees) {
            if (there > own) {
                seen.orcFled++;
                m.x = taken[0];
                m.y = taken[1];
            } else {
                seen.orcCornered++;
            }
        } else if (there < own) {
            if (taken[0] == x && taken[1] == y) {
                seen.ratHit += m.kind == 0 ? 1 : 0;
                seen.orcHit += m.kind == 1 ? 1 : 0;
                hurt(m);
            } else {
                m.x = taken[0];
                m.y = taken[1];
            }
        }
    }

    private void hurt(Beast m) {
        health -= m.hit();
        dead = health <= 0;
    }

    int cell(int cx, int cy, int what) {
        if (cx < 0 || cx > 11 || cy < 0 || cy > 9 || what < 0 || what > 5) {
            return -1;
        }
        if (what == 0) {
            return cx == stairsX && cy == stairsY ? 2 : floor[cx][cy] ? 1 : 0;
        }
        if (what == 1) {
            return isSeen(cx, cy) ? 1 : 0;
        }
        if (what == 2) {
            return known[cx][cy] ? 1 : 0;
        }
        if (what == 3) {
            Beast m = beastAt(cx, cy);
            return cx == x && cy == y ? 1 : m != null ? 2 + m.kind : 0;
        }
        if (what == 4) {
            return thing[cx][cy];
        }
        return floor[cx][cy] ? distances()[cx][cy] : -2;
    }

    int monster(int i, int what) {
        if (what < 0 || what > 5) {
            return -1;
        }
        if (i < 0 || i >= beasts.size() || beasts.get(i).gone) {
            return -2;
        }
        Beast m = beasts.get(i);
        return new int[] {m.kind, m.x, m.y, m.health, m.energy, m.awake ? 1 : 0}[what];
    }

    int player(int what) {
        if (what >= 10 && what <= 13) {
            return what - 10 < bag.size() ? bag.get(what - 10) : -2;
        }
        if (what < 0 || what > 7) {
            return -1;
        }
        return new int[] {x, y, dead ? 0 : health, hit, energy, haste, depth, bag.size()}[what];
    }

    int recorded(int k) {
        return k >= 0 && k < record.size() ? record.get(k) : -2;
    }

    long hash() {
        List<Long> numbers = new ArrayList<>();
        for (int number : new int[] {depth, x, y, health, hit, energy, haste, bag.size()}) {
            numbers.add((long) number);
        }
        for (int kind : bag) {
            numbers.add((long) kind);
        }
        for (Beast m : beasts) {
            if (!m.gone) {
                for (int number : new int[] {m.kind, m.x, m.y, m.health, m.energy, m.awake ? 1 : 0}) {
                    numbers.add((long) number);
                }
            }
        }
        for (int j = 0; j < 10; j++) {
            for (int i = 0; i < 12; i++) {
                if (thing[i][j] != 0) {
                    numbers.add(16L * j + i);
                    numbers.add(thing[i][j] - 1L);
                }
            }
        }
        numbers.add(play);
        BigInteger h = BigInteger.valueOf(17);
        for (long number : numbers) {
            h = h.multiply(BigInteger.valueOf(1000003)).add(BigInteger.valueOf(number));
        }
        return h.longValue();
    }

    int count(int what) {
        int awake = 0;
        int there = 0;
        for (Beast m : beasts) {
            there += m.gone ? 0 : 1;
            awake += m.gone || !m.awake ? 0 : 1;
        }
        int things = 0;
        int floors = 0;
        int floorsSeen = 0;
        int cellsKnown = 0;
        int farthest = 0;
        int[][] d = distances();
        for (int i = 0; i < 12; i++) {
            for (int j = 0; j < 10; j++) {
                things += thing[i][j] != 0 ? 1 : 0;
                floors += floor[i][j] ? 1 : 0;
                floorsSeen += floor[i][j] && isSeen(i, j) ? 1 : 0;
                cellsKnown += known[i][j] ? 1 : 0;
                farthest = floor[i][j] ? Math.max(farthest, d[i][j]) : farthest;
            }
        }
        int over = dead ? 1 : won ? 2 : 0;
        int[] answers = {ticks, record.size(), kills, there, awake, things, floors, floorsSeen, cellsKnown, over,
            farthest};
        return what < 0 || what > 10 ? -1 : answers[what];
    }
}
