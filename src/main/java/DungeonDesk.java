import java.util.Arrays;

/** A dungeon of three levels made out of a seed, and a game in it by keys that are all recorded. */
public final class DungeonDesk {
    public static final int REFUSED = -1;
    public static final int NONE = -2;

    private static final int COLUMNS = 12;
    private static final int ROWS = 10;
    private static final int CELLS = COLUMNS * ROWS;
    /** An object is used for at most so many calls, so no more keys than these can be recorded. */
    private static final int MOST_KEYS = 512;

    private final Game game;
    private final int[] keys;
    private int keyCount;

    public DungeonDesk(int seed) {
        game = new Game(seed);
        keys = new int[MOST_KEYS];
        keyCount = 0;
        game.begin();
    }

    public int key(int c) {
        if (keyCount >= MOST_KEYS) {
            return REFUSED;
        }
        int answer = game.press(c);
        if (answer != REFUSED) {
            keys[keyCount] = c;
            keyCount++;
        }
        return answer;
    }

    public int rewind(int n) {
        if (n < 0 || n > keyCount) {
            return REFUSED;
        }
        game.begin();
        for (int k = 0; k < n; k++) {
            game.press(keys[k]);
        }
        keyCount = n;
        return game.ticks;
    }

    public int cell(int x, int y, int what) {
        if (x < 0 || x >= COLUMNS || y < 0 || y >= ROWS) {
            return REFUSED;
        }
        int place = y * COLUMNS + x;
        return switch (what) {
            case 0 -> game.level.ground[place];
            case 1 -> game.level.inSight(game.hero.place, place) ? 1 : 0;
            case 2 -> game.level.known[place];
            case 3 -> whoIsAt(place);
            case 4 -> game.level.things[place];
            case 5 -> game.distances.from(place);
            default -> REFUSED;
        };
    }

    private int whoIsAt(int place) {
        if (place == game.hero.place) {
            return 1;
        }
        int i = game.monsters.at(place);
        return game.monsters.isThere(i) ? 2 + game.monsters.kind[i] : 0;
    }

    public int monster(int i, int what) {
        if (what < 0 || what > 5) {
            return REFUSED;
        }
        Monsters all = game.monsters;
        if (!all.isThere(i)) {
            return NONE;
        }
        return switch (what) {
            case 0 -> all.kind[i];
            case 1 -> all.place[i] % COLUMNS;
            case 2 -> all.place[i] / COLUMNS;
            case 3 -> all.health[i];
            case 4 -> all.energy[i];
            default -> all.awake[i];
        };
    }

    public int player(int what) {
        Hero hero = game.hero;
        return switch (what) {
            case 0 -> hero.place % COLUMNS;
            case 1 -> hero.place / COLUMNS;
            case 2 -> hero.isDead() ? 0 : hero.health;
            case 3 -> hero.hit;
            case 4 -> hero.energy;
            case 5 -> hero.haste;
            case 6 -> game.depth;
            case 7 -> hero.bagSize;
            case 10, 11, 12, 13 -> hero.thingInBag(what - 10);
            default -> REFUSED;
        };
    }

    public int recorded(int k) {
        return k >= 0 && k < keyCount ? keys[k] : NONE;
    }

    public long hash() {
        long h = mix(17, game.depth);
        h = mixHero(h);
        h = mixMonsters(h);
        h = mixThings(h);
        return mix(h, game.play.state);
    }

    private static long mix(long h, long number) {
        return h * 1000003L + number;
    }

    private long mixHero(long start) {
        Hero hero = game.hero;
        long h = mix(start, hero.place % COLUMNS);
        h = mix(h, hero.place / COLUMNS);
        // The document sets only the answer of player(2) to 0 for the dead, not the health itself.
        h = mix(h, hero.health);
        h = mix(h, hero.hit);
        h = mix(h, hero.energy);
        h = mix(h, hero.haste);
        h = mix(h, hero.bagSize);
        for (int k = 0; k < hero.bagSize; k++) {
            h = mix(h, hero.thingInBag(k));
        }
        return h;
    }

    private long mixMonsters(long start) {
        Monsters all = game.monsters;
        long h = start;
        for (int i = 0; i < all.made; i++) {
            if (all.isThere(i)) {
                h = mix(h, all.kind[i]);
                h = mix(h, all.place[i] % COLUMNS);
                h = mix(h, all.place[i] / COLUMNS);
                h = mix(h, all.health[i]);
                h = mix(h, all.energy[i]);
                h = mix(h, all.awake[i]);
            }
        }
        return h;
    }

    private long mixThings(long start) {
        int[] things = game.level.things;
        long h = start;
        for (int place = 0; place < CELLS; place++) {
            if (things[place] != Level.NOTHING) {
                h = mix(h, 16 * (place / COLUMNS) + place % COLUMNS);
                h = mix(h, things[place] - 1);
            }
        }
        return h;
    }

    public int count(int what) {
        return switch (what) {
            case 0 -> game.ticks;
            case 1 -> keyCount;
            case 2 -> game.slain;
            case 3 -> game.monsters.countThere(false);
            case 4 -> game.monsters.countThere(true);
            case 5 -> countFilled(game.level.things);
            case 6 -> countFilled(game.level.ground);
            case 7 -> game.level.countFloorInSight(game.hero.place);
            case 8 -> countFilled(game.level.known);
            case 9 -> game.hero.isDead() ? 1 : game.won ? 2 : 0;
            case 10 -> game.distances.greatest;
            default -> REFUSED;
        };
    }

    private static int countFilled(int[] cells) {
        int filled = 0;
        for (int value : cells) {
            if (value != 0) {
                filled++;
            }
        }
        return filled;
    }

    /** A stream of numbers that are drawn one behind the other. */
    private static final class Draws {
        long state;

        Draws() {
            state = 0;
        }

        int draw(int n) {
            state = state * 6364136223846793005L + 1442695040888963407L;
            return n > 0 ? (int) ((state >>> 33) % n) : 0;
        }
    }

    /** The ground of a level, what lies on it, and what is known of it; a place is 12 * row + column. */
    private static final class Level {
        static final int WALL = 0;
        static final int FLOOR = 1;
        static final int STAIRS = 2;
        static final int NOTHING = 0;
        static final int SIGHT = 4;
        static final int[] STEPS = {-COLUMNS, 1, COLUMNS, -1};

        final int[] ground;
        /** 0 or 1 + the kind of the thing. */
        final int[] things;
        final int[] known;
        int start;

        Level() {
            ground = new int[CELLS];
            things = new int[CELLS];
            known = new int[CELLS];
            start = 0;
        }

        void clear() {
            Arrays.fill(ground, WALL);
            Arrays.fill(things, NOTHING);
            Arrays.fill(known, 0);
        }

        /** Asked of floor alone: the outermost cells are walls always, so no step leads out or around. */
        static int neighbour(int place, int number) {
            return number >= 0 && number < STEPS.length ? place + STEPS[number] : place;
        }

        static boolean isCell(int place) {
            return place >= 0 && place < CELLS;
        }

        boolean isFloor(int place) {
            return place >= 0 && place < CELLS && ground[place] != WALL;
        }

        boolean hasStairs(int place) {
            return isCell(place) && ground[place] == STAIRS;
        }

        void setGround(int place, int value) {
            if (place >= 0 && place < CELLS) {
                ground[place] = value;
            }
        }

        void layThing(int place, int kind) {
            if (isCell(place) && things[place] == NOTHING && ground[place] != STAIRS) {
                things[place] = 1 + kind;
            }
        }

        /** The kind of the thing there, or NONE. */
        int thingAt(int place) {
            return isCell(place) && things[place] != NOTHING ? things[place] - 1 : NONE;
        }

        void takeThing(int place) {
            if (isCell(place)) {
                things[place] = NOTHING;
            }
        }

        /** At most four columns and rows away, and the line from the first to the second is clear. */
        boolean inSight(int from, int to) {
            int x = from % COLUMNS;
            int y = from / COLUMNS;
            int dx = to % COLUMNS - x;
            int dy = to / COLUMNS - y;
            int n = Math.max(Math.abs(dx), Math.abs(dy));
            if (n > SIGHT) {
                return false;
            }
            for (int k = 1; k < n; k++) {
                int column = x + Math.floorDiv(2 * k * dx + n, 2 * n);
                int row = y + Math.floorDiv(2 * k * dy + n, 2 * n);
                if (!isFloor(row * COLUMNS + column)) {
                    return false;
                }
            }
            return true;
        }

        void learnFrom(int eye) {
            for (int place = 0; place < CELLS; place++) {
                if (known[place] == 0 && inSight(eye, place)) {
                    known[place] = 1;
                }
            }
        }

        int countFloorInSight(int eye) {
            int seen = 0;
            for (int place = 0; place < CELLS; place++) {
                if (ground[place] != WALL && inSight(eye, place)) {
                    seen++;
                }
            }
            return seen;
        }
    }

    /** The monsters of a level, by their numbers; one whose health is 0 or less is gone. */
    private static final class Monsters {
        static final int ORC = 1;
        static final int BAT = 2;
        static final int MOST = 5;
        static final int[] HEALTH_OF = {3, 6, 2};
        static final int[] SPEED_OF = {8, 6, 14};
        static final int[] HIT_OF = {1, 2, 1};

        final int[] kind;
        final int[] place;
        final int[] health;
        final int[] energy;
        final int[] awake;
        int made;

        Monsters() {
            kind = new int[MOST];
            place = new int[MOST];
            health = new int[MOST];
            energy = new int[MOST];
            awake = new int[MOST];
            made = 0;
        }

        void clear() {
            made = 0;
        }

        void add(int kindOfNew, int where) {
            if (made >= MOST || kindOfNew < 0 || kindOfNew >= HEALTH_OF.length || at(where) != NONE) {
                return;
            }
            kind[made] = kindOfNew;
            place[made] = where;
            health[made] = HEALTH_OF[kindOfNew];
            energy[made] = 0;
            awake[made] = 0;
            made++;
        }

        boolean isThere(int i) {
            return i >= 0 && i < made && health[i] > 0;
        }

        /** The number of the monster there, or NONE. */
        int at(int where) {
            for (int i = 0; i < made; i++) {
                if (health[i] > 0 && place[i] == where) {
                    return i;
                }
            }
            return NONE;
        }

        int countThere(boolean awakeOnly) {
            int there = 0;
            for (int i = 0; i < made; i++) {
                if (isThere(i) && (!awakeOnly || awake[i] == 1)) {
                    there++;
                }
            }
            return there;
        }

        /** Answers whether the monster is gone by the blow. */
        boolean strike(int i, int hit) {
            if (!isThere(i)) {
                return false;
            }
            awake[i] = 1;
            health[i] -= hit;
            return health[i] <= 0;
        }
    }

    /** Makes levels out of the seed; keeps the rooms while it does. */
    private static final class Maker {
        static final int ROOMS = 4;
        static final int THINGS = 3;

        final Draws making;
        final int[] left;
        final int[] top;
        final int[] width;
        final int[] height;

        Maker() {
            making = new Draws();
            left = new int[ROOMS];
            top = new int[ROOMS];
            width = new int[ROOMS];
            height = new int[ROOMS];
        }

        void make(int seed, int depth, Level level, Monsters monsters) {
            making.state = (seed + 1L) * 1000003L + depth;
            level.clear();
            monsters.clear();
            for (int i = 0; i < ROOMS; i++) {
                digRoom(i, level);
            }
            digWay(0, 1, level);
            digWay(1, 3, level);
            digWay(3, 2, level);
            level.setGround(drawPlace(2), Level.STAIRS);
            level.start = centreRow(0) * COLUMNS + centreColumn(0);
            for (int i = 0; i < 2 + depth; i++) {
                int kind = making.draw(3);
                monsters.add(kind, drawPlace(1 + making.draw(3)));
            }
            for (int i = 0; i < THINGS; i++) {
                int kind = making.draw(4);
                level.layThing(drawPlace(making.draw(ROOMS)), kind);
            }
        }

        private void digRoom(int i, Level level) {
            width[i] = 2 + making.draw(3);
            height[i] = 2 + making.draw(2);
            left[i] = 6 * (i % 2) + 1 + making.draw(5 - width[i]);
            top[i] = 5 * (i / 2) + 1 + making.draw(4 - height[i]);
            for (int row = top[i]; row < top[i] + height[i]; row++) {
                digRow(row, left[i], left[i] + width[i] - 1, level);
            }
        }

        private void digWay(int from, int to, Level level) {
            int a = centreColumn(from);
            int b = centreRow(from);
            int c = centreColumn(to);
            int d = centreRow(to);
            boolean rowFirst = making.draw(2) == 0;
            digRow(rowFirst ? b : d, a, c, level);
            digColumn(rowFirst ? c : a, b, d, level);
        }

        private void digRow(int row, int oneEnd, int otherEnd, Level level) {
            for (int column = Math.min(oneEnd, otherEnd); column <= Math.max(oneEnd, otherEnd); column++) {
                level.setGround(row * COLUMNS + column, Level.FLOOR);
            }
        }

        private void digColumn(int column, int oneEnd, int otherEnd, Level level) {
            for (int row = Math.min(oneEnd, otherEnd); row <= Math.max(oneEnd, otherEnd); row++) {
                level.setGround(row * COLUMNS + column, Level.FLOOR);
            }
        }

        private int centreColumn(int room) {
            return left[room] + width[room] / 2;
        }

        private int centreRow(int room) {
            return top[room] + height[room] / 2;
        }

        private int drawPlace(int room) {
            if (room < 0 || room >= ROOMS) {
                return NONE;
            }
            int column = left[room] + making.draw(width[room]);
            int row = top[room] + making.draw(height[room]);
            return row * COLUMNS + column;
        }
    }

    /** How many steps each floor cell is from the player. */
    private static final class Distances {
        final int[] steps;
        final int[] queue;
        int greatest;

        Distances() {
            steps = new int[CELLS];
            queue = new int[CELLS];
            greatest = 0;
        }

        int from(int place) {
            return place >= 0 && place < CELLS ? steps[place] : NONE;
        }

        void measure(int goal, Level level) {
            Arrays.fill(steps, NONE);
            greatest = 0;
            if (!level.isFloor(goal)) {
                return;
            }
            steps[goal] = 0;
            queue[0] = goal;
            int waiting = 1;
            for (int k = 0; k < waiting && k < CELLS; k++) {
                int place = queue[k];
                greatest = steps[place];
                for (int number = 0; number < 4; number++) {
                    int next = Level.neighbour(place, number);
                    if (level.isFloor(next) && steps[next] == NONE && waiting < CELLS) {
                        steps[next] = steps[place] + 1;
                        queue[waiting] = next;
                        waiting++;
                    }
                }
            }
        }
    }

    /** The player. */
    private static final class Hero {
        static final int MOST_HEALTH = 10;
        static final int BAG = 4;

        int place;
        int health;
        int hit;
        int energy;
        int haste;
        final int[] bag;
        int bagSize;

        Hero() {
            bag = new int[BAG];
            reset();
        }

        void reset() {
            place = 0;
            health = MOST_HEALTH;
            hit = 1;
            energy = Game.TURN;
            haste = 0;
            bagSize = 0;
        }

        boolean isDead() {
            return health <= 0;
        }

        boolean bagIsFull() {
            return bagSize >= BAG;
        }

        int thingInBag(int k) {
            return k >= 0 && k < bagSize && k < BAG ? bag[k] : NONE;
        }

        void putInBag(int kind) {
            if (!bagIsFull()) {
                bag[bagSize] = kind;
                bagSize++;
            }
        }

        void dropFromBag(int k) {
            if (k < 0 || k >= bagSize || bagSize > BAG) {
                return;
            }
            for (int i = k; i + 1 < bagSize; i++) {
                bag[i] = bag[i + 1];
            }
            bagSize--;
        }
    }

    /** The rules: what each key does, and what happens while time passes. */
    private static final class Game {
        static final int BLOCKED = 0;
        static final int DONE = 1;
        static final int MONSTER_WENT = 2;
        static final int DEAD = 3;
        static final int WON = 4;

        static final int LAST_LEVEL = 3;
        /** The energy that one action costs. */
        static final int TURN = 10;
        static final int HASTE_TICKS = 6;
        /** An orc with so much health or less flees. */
        static final int ORC_FEARS = 2;
        /** Far above the turns or ticks that energies of this game can ask for at once. */
        static final int MANY = 1000;

        final int seed;
        final Draws play;
        final Maker maker;
        final Level level;
        final Monsters monsters;
        final Distances distances;
        final Hero hero;
        int depth;
        int ticks;
        int slain;
        boolean won;

        Game(int seed) {
            this.seed = seed;
            play = new Draws();
            maker = new Maker();
            level = new Level();
            monsters = new Monsters();
            distances = new Distances();
            hero = new Hero();
            depth = 1;
            ticks = 0;
            slain = 0;
            won = false;
        }

        void begin() {
            play.state = seed;
            hero.reset();
            depth = 1;
            ticks = 0;
            slain = 0;
            won = false;
            maker.make(seed, depth, level, monsters);
            arrive(level.start);
        }

        int press(int c) {
            if (hero.isDead() || won) {
                return REFUSED;
            }
            int outcome = switch (c) {
                case 'k' -> walk(0);
                case 'l' -> walk(1);
                case 'j' -> walk(2);
                case 'h' -> walk(3);
                case '.' -> DONE;
                case 'g' -> pickUp();
                case 'a', 'b', 'c', 'd' -> useThing(c - 'a');
                case '>' -> descend();
                default -> REFUSED;
            };
            if (c != '>' && (outcome == DONE || outcome == MONSTER_WENT)) {
                passTime();
            }
            return hero.isDead() ? DEAD : outcome;
        }

        private int walk(int direction) {
            int target = Level.neighbour(hero.place, direction);
            if (!level.isFloor(target)) {
                return BLOCKED;
            }
            int i = monsters.at(target);
            if (i == NONE) {
                arrive(target);
                return DONE;
            }
            if (monsters.strike(i, hero.hit)) {
                slain++;
                return MONSTER_WENT;
            }
            return DONE;
        }

        /** What is known and all distances hang on the player's place alone, so they change with it. */
        private void arrive(int place) {
            hero.place = place;
            level.learnFrom(place);
            distances.measure(place, level);
        }

        private int pickUp() {
            int kind = level.thingAt(hero.place);
            if (kind == NONE || hero.bagIsFull()) {
                return BLOCKED;
            }
            hero.putInBag(kind);
            level.takeThing(hero.place);
            return DONE;
        }

        private int useThing(int k) {
            int kind = hero.thingInBag(k);
            if (kind == NONE) {
                return BLOCKED;
            }
            hero.dropFromBag(k);
            switch (kind) {
                case 0 -> hero.health = Math.min(hero.health + 5, Hero.MOST_HEALTH);
                case 1 -> hero.hit++;
                case 2 -> arrive(drawFreePlace());
                default -> hero.haste = HASTE_TICKS;
            }
            return DONE;
        }

        /** One of the floor cells without a monster; the player's own is among them. */
        private int drawFreePlace() {
            int free = 0;
            for (int place = 0; place < CELLS; place++) {
                if (isFree(place)) {
                    free++;
                }
            }
            int left = play.draw(free);
            for (int place = 0; place < CELLS; place++) {
                if (isFree(place)) {
                    if (left == 0) {
                        return place;
                    }
                    left--;
                }
            }
            return hero.place;
        }

        private boolean isFree(int place) {
            return level.isFloor(place) && monsters.at(place) == NONE;
        }

        private int descend() {
            if (!level.hasStairs(hero.place)) {
                return BLOCKED;
            }
            if (depth >= LAST_LEVEL) {
                won = true;
                return WON;
            }
            depth++;
            maker.make(seed, depth, level, monsters);
            arrive(level.start);
            hero.energy = TURN;
            return DONE;
        }

        private void passTime() {
            hero.energy -= TURN;
            for (int t = 0; t < MANY && hero.energy < TURN && !hero.isDead(); t++) {
                ticks++;
                if (hero.haste > 0) {
                    hero.energy += 2 * TURN;
                    hero.haste--;
                } else {
                    hero.energy += TURN;
                }
                for (int i = 0; i < monsters.made; i++) {
                    takeTurns(i);
                }
            }
        }

        /** Gives energy even when the player is dead already: only the acting stops then. */
        private void takeTurns(int i) {
            if (!monsters.isThere(i)) {
                return;
            }
            monsters.energy[i] += Monsters.SPEED_OF[monsters.kind[i]];
            for (int t = 0; t < MANY && monsters.energy[i] >= TURN && !hero.isDead(); t++) {
                monsters.energy[i] -= TURN;
                act(i);
            }
        }

        private void act(int i) {
            int kind = monsters.kind[i];
            int place = monsters.place[i];
            if (monsters.awake[i] == 0) {
                monsters.awake[i] = level.inSight(place, hero.place) ? 1 : 0;
            } else if (kind == Monsters.BAT) {
                goOrHit(i, Level.neighbour(place, play.draw(4)));
            } else if (kind == Monsters.ORC && monsters.health[i] <= ORC_FEARS) {
                goOrHit(i, bestStep(place, -1));
            } else {
                goOrHit(i, bestStep(place, 1));
            }
        }

        /** The first best neighbour, towards the player (1) or away (-1), or the place itself if none is better. */
        private int bestStep(int place, int towards) {
            int best = place;
            for (int number = 0; number < 4; number++) {
                int next = Level.neighbour(place, number);
                if (level.isFloor(next) && monsters.at(next) == NONE
                        && towards * distances.from(next) < towards * distances.from(best)) {
                    best = next;
                }
            }
            return best;
        }

        /** Does nothing if the target is a wall or has a monster, be it this one itself. */
        private void goOrHit(int i, int target) {
            if (target == hero.place) {
                hero.health -= Monsters.HIT_OF[monsters.kind[i]];
            } else if (level.isFloor(target) && monsters.at(target) == NONE) {
                monsters.place[i] = target;
            }
        }
    }
}
