import java.util.Random;

/** Many games by several ways of playing, every answer held against the model's. */
public final class ModelTest {
    private static final int[] EDGES = {0, 1, -1, 2, -2, 7, -7, Integer.MAX_VALUE, Integer.MAX_VALUE - 1,
        Integer.MIN_VALUE, Integer.MIN_VALUE + 1, 1000003, -1000003, 65536, 123456789};
    private static final int GAMES = 1200;
    private static final int MOST_CHANGES = 180;

    private final Check check = new Check();
    private final Model.Seen seen = new Model.Seen();
    private final Random random = new Random(20261115);
    private int seed;
    private Desk desk;
    private Model model;

    public static void main(String[] args) {
        ModelTest test = new ModelTest();
        for (int i = 0; i < GAMES && test.check.wrong() == 0; i++) {
            int seed = i < EDGES.length * 3 ? EDGES[i / 3] : i % 5 == 0 ? test.random.nextInt() : i;
            test.play(seed, i % 3);
        }
        test.tellsWhatHappened();
        test.check.end();
    }

    private void play(int seed, int way) {
        this.seed = seed;
        desk = new Desk(seed);
        model = new Model(seed, seen);
        compareAll();
        for (int t = 0; desk.changes() < MOST_CHANGES && check.wrong() == 0 && t < 400; t++) {
            int depth = model.depth;
            if (random.nextInt(way == 0 ? 20 : 150) == 0) {
                rewind();
            } else if (random.nextInt(25) == 0) {
                press(random.nextInt(6) == 0 ? random.nextInt() : random.nextInt(140) - 5);
            } else {
                press(choose(way));
            }
            compareSome();
            if (depth != model.depth || t % 40 == 39) {
                compareAll();
            }
            if (model.dead || model.won) {
                compareAll();
                press("kljh.gabcd>".charAt(random.nextInt(11)));
                if (random.nextInt(3) == 0) {
                    break;
                }
                rewind();
            }
        }
        compareAll();
    }

    private String told(String call) {
        StringBuilder keys = new StringBuilder();
        for (int c : model.record) {
            keys.append((char) c);
        }
        return "seed " + seed + " behind \"" + keys + "\": " + call;
    }

    private void press(int c) {
        String told = told("key(" + c + ")");
        check.due(told, desk.key(c), model.key(c));
    }

    private void rewind() {
        int most = model.record.size();
        int n = random.nextInt(4) == 0 ? random.nextInt(4) - 2 + most : random.nextInt(3) == 0 ? most
            : random.nextInt(most + 1);
        String told = told("rewind(" + n + ")");
        int want = -1;
        if (n >= 0 && n <= most) {
            Model anew = new Model(seed, seen);
            for (int k = 0; k < n; k++) {
                anew.key(model.record.get(k));
            }
            model = anew;
            want = model.ticks;
        }
        check.due(told, desk.rewind(n), want);
    }

    /** Way 0 at random, 1 gathers and goes down, 2 fights. */
    private int choose(int way) {
        if (way == 0 || random.nextInt(12) == 0) {
            return "kljhkljhkljh.gabcd>".charAt(random.nextInt(19));
        }
        int[] goal = way == 2 ? monsterToFight() : null;
        if (goal == null) {
            goal = nearestThing();
        }
        if (!model.bag.isEmpty() && (model.health < 5 || random.nextInt(seed % 2 == 0 ? 10 : 60) == 0)) {
            return 'a' + random.nextInt(model.bag.size());
        }
        if (goal == null) {
            goal = new int[] {model.stairsX, model.stairsY};
        }
        if (goal[0] == model.x && goal[1] == model.y) {
            return model.thing[model.x][model.y] != 0 && random.nextInt(4) != 0 ? 'g' : '>';
        }
        return stepTo(goal);
    }

    private int[] monsterToFight() {
        for (Model.Beast m : model.beasts) {
            if (!m.gone && (m.kind != 2 || random.nextInt(2) == 0)) {
                return new int[] {m.x, m.y};
            }
        }
        return null;
    }

    private int[] nearestThing() {
        int[][] d = model.distances();
        int[] best = null;
        for (int i = 0; i < 12; i++) {
            for (int j = 0; j < 10; j++) {
                if (model.thing[i][j] != 0 && (best == null || d[i][j] < d[best[0]][best[1]])) {
                    best = new int[] {i, j};
                }
            }
        }
        return best != null && model.bag.size() == 4 && best[0] == model.x && best[1] == model.y
            && random.nextInt(2) == 0 ? null : best;
    }

    private int stepTo(int[] goal) {
        int best = 0;
        int least = Integer.MAX_VALUE;
        int x = model.x;
        int y = model.y;
        model.x = goal[0];
        model.y = goal[1];
        int[][] d = model.distances();
        model.x = x;
        model.y = y;
        for (int k = 0; k < 4; k++) {
            int there = d[x + Model.NEIGHBOURS[k][0]][y + Model.NEIGHBOURS[k][1]];
            if (there < least) {
                least = there;
                best = k;
            }
        }
        return "kljh".charAt(best);
    }

    private void compareSome() {
        check.due(told("hash()"), desk.hash(), model.hash());
        int x = random.nextInt(14) - 1;
        int y = random.nextInt(12) - 1;
        int what = random.nextInt(8) - 1;
        check.due(told("cell(" + x + ", " + y + ", " + what + ")"), desk.cell(x, y, what), model.cell(x, y, what));
        check.due(told("count(" + what + ")"), desk.count(what), model.count(what));
    }

    private void compareAll() {
        check.due(told("hash()"), desk.hash(), model.hash());
        for (int what = -2; what < 14; what++) {
            check.due(told("count(" + what + ")"), desk.count(what), model.count(what));
        }
        for (int what = -2; what < 18; what++) {
            check.due(told("player(" + what + ")"), desk.player(what), model.player(what));
        }
        for (int i = -2; i < 8; i++) {
            for (int what = -1; what < 7; what++) {
                check.due(told("monster(" + i + ", " + what + ")"), desk.monster(i, what), model.monster(i, what));
            }
        }
        for (int x = -1; x <= 12; x++) {
            for (int y = -1; y <= 10; y++) {
                for (int what = -1; what < 7; what++) {
                    check.due(told("cell(" + x + ", " + y + ", " + what + ")"), desk.cell(x, y, what),
                        model.cell(x, y, what));
                }
            }
        }
        for (int k = -1; k < model.record.size() + 2; k++) {
            check.due(told("recorded(" + k + ")"), desk.recorded(k), model.recorded(k));
        }
    }

    /** A comparison tells nothing of what never happened in it. */
    private void tellsWhatHappened() {
        happened("a rat hit", seen.ratHit);
        happened("an orc hit", seen.orcHit);
        happened("a bat hit", seen.batHit);
        happened("a bat found a wall or a monster", seen.batStayed);
        happened("an orc fled", seen.orcFled);
        happened("an orc could not flee", seen.orcCornered);
        happened("a monster went", seen.killed);
        happened("a sleeping monster was struck", seen.struckAsleep);
        happened("a monster on a thing", seen.monsterOnThing);
        happened("a monster on the stairs", seen.monsterOnStairs);
        happened("the bag was full", seen.fullBag);
        happened("a turn without a tick", seen.turnWithoutTick);
        happened("haste was used in haste", seen.hasteRenewed);
        happened("down with energy 20", seen.descendWithEnergy20);
        happened("health was bounded", seen.healthCapped);
        for (int kind = 0; kind < 4; kind++) {
            happened("use of kind " + kind, seen.used[kind]);
        }
        for (int level = 1; level <= 3; level++) {
            happened("death on level " + level, seen.deadOnLevel[level]);
        }
        happened("death with health below 0", seen.deadBelowZero);
        happened("death by the key by which a monster went", seen.deadWithKill);
        happened("death before the last monster's turn", seen.deadBeforeOthers);
        happened("the game was won", seen.won);
    }

    private void happened(String what, int times) {
        System.out.println("  " + what + ": " + times);
        check.holds(what, times > 0);
    }
}
