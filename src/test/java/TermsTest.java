import java.util.ArrayList;
import java.util.List;

/** The sentences of the terms that name no edge, in their order: what is ordinary. */
public final class TermsTest {
    private static final Check check = new Check();

    public static void main(String[] args) {
        cellsAreWallOrFloor();
        neighboursOfThePlayer();
        neighboursOfABat();
        playIsNotDrawnByMaking();
        makingIsNotDrawnByPlay();
        drawsChangeTheStream();
        levelsAreMadeByDraws();
        roomsInTurn();
        roomsAreFloor();
        waysBetweenTheRooms();
        waysOfBothForms();
        stairsAreInRoomTwo();
        thePlayerIsInRoomZero();
        monstersAreDrawn();
        thingsAreDrawn();
        rats();
        orcs();
        bats();
        thePlayersNumbers();
        steepLines();
        flatLines();
        wallsAreSeenAndFloorIs();
        distancesGoFromNeighbourToNeighbour();
        sleepersStay();
        ratsCome();
        batsDraw();
        aHitTakesHealth();
        energyGoesAndComes();
        monstersByNumbers();
        keysAreNumbers();
        takingIsAKey();
        jumpsCountRowByRow();
        stairsAreAKey();
        refusedNumbers();
        refusedWhenOver();
        noneOfThese();
        check.end();
    }

    /** Seeds of all signs and sizes. */
    private static List<Integer> seeds() {
        List<Integer> seeds = new ArrayList<>();
        for (int k = -20; k <= 20; k++) {
            seeds.add(k);
            seeds.add(k * 107374181);
        }
        return seeds;
    }

    private static void cellsAreWallOrFloor() {
        Sentence says = check.says("a CELL (x, y) is a WALL or FLOOR");
        for (int seed : seeds()) {
            Desk desk = new Desk(seed);
            for (int place = 0; place < 120; place++) {
                int ground = desk.cell(place % 12, place / 12, 0);
                boolean hasDistance = desk.cell(place % 12, place / 12, 5) >= 0;
                says.holds(desk.told() + ": place " + place, ground == 0 && !hasDistance
                    || (ground == 1 || ground == 2) && hasDistance);
            }
        }
    }

    private static void neighboursOfThePlayer() {
        Sentence says = check.says("The NEIGHBOURS of a CELL are, in this order, those at (x, y - 1), (x + 1, y), "
            + "(x, y + 1), (x - 1, y)");
        says.playerAt(new Desk(1), 2, 2);
        says.playerAt(Desk.after(1, "k"), 2, 1);
        says.playerAt(Desk.after(1, "l"), 3, 2);
        says.playerAt(Desk.after(1, "j"), 2, 3);
        says.playerAt(Desk.after(1, "h"), 1, 2);
    }

    private static void neighboursOfABat() {
        Sentence says = check.says("those at (x, y - 1), (x + 1, y), (x, y + 1), (x - 1, y)");
        batGoes(says, 346, 0, 0, 8, 2, 8, 1);
        batGoes(says, 585, 1, 1, 7, 2, 8, 2);
        batGoes(says, 273, 2, 1, 8, 1, 8, 2);
        batGoes(says, 6, 3, 2, 8, 2, 7, 2);
    }

    /** By the second step to the right, with the first draw of PLAY. */
    private static void batGoes(Sentence says, int seed, int drawn, int bat, int... fromTo) {
        Desk desk = Desk.after(seed, "l");
        says.monster(desk, bat, 0, 2);
        says.monster(desk, bat, 5, 1);
        says.monsterAt(desk, bat, fromTo[0], fromTo[1]);
        says.holds("number " + drawn + " is drawn", Sums.answer(Sums.drawn(seed), 4) == drawn);
        desk.key('l');
        says.monsterAt(desk, bat, fromTo[2], fromTo[3]);
    }

    private static final String ON_FOOT = "llllljjjjhjhhhhj>";
    private static final String BY_A_JUMP = "khga>";

    private static void playIsNotDrawnByMaking() {
        Sentence says = check.says("There are two STREAMS, longs, MAKING and PLAY");
        Desk desk = Desk.after(68, ON_FOOT);
        says.player(desk, 6, 2);
        says.hash(desk, Sums.hash(desk, 68));
    }

    private static void makingIsNotDrawnByPlay() {
        Sentence says = check.says("There are two STREAMS, longs, MAKING and PLAY");
        Desk desk = Desk.after(68, BY_A_JUMP);
        says.player(desk, 6, 2);
        says.hash(desk, Sums.hash(desk, Sums.drawn(68)));
        Desk onFoot = Desk.after(68, ON_FOOT);
        for (int place = 0; place < 120; place++) {
            for (int what : new int[] {0, 3, 4}) {
                says.cell(desk, place % 12, place / 12, what, onFoot.cell(place % 12, place / 12, what));
            }
        }
    }

    private static void drawsChangeTheStream() {
        Sentence says = check.says("DRAW(n) of a STREAM: it becomes itself times 6364136223846793005, "
            + "and 1442695040888963407 (wrapping)");
        Desk desk = new Desk(726);
        long play = 726;
        desk.keys("ll");
        play = play * 6364136223846793005L + 1442695040888963407L;
        says.hash(desk, Sums.hash(desk, play));
        desk.key('l');
        play = play * 6364136223846793005L + 1442695040888963407L;
        play = play * 6364136223846793005L + 1442695040888963407L;
        says.hash(desk, Sums.hash(desk, play));
    }

    private static void levelsAreMadeByDraws() {
        Sentence says = check.says("LEVEL d (1 to 3) IS MADE by DRAWS of MAKING");
        floorIs(says, new Desk(3447), new Plan(3447, 1));
        floorIs(says, Desk.after(3447, "lllljjjjhhhhhhhh>"), new Plan(3447, 2));
        floorIs(says, Desk.after(3447, "lllljjjjhhhhhhhh>lllljjjjjjhhhhk>"), new Plan(3447, 3));
    }

    private static void floorIs(Sentence says, Desk desk, Plan plan) {
        for (int x = 0; x < 12; x++) {
            for (int y = 0; y < 10; y++) {
                boolean stairs = x == plan.stairsX && y == plan.stairsY;
                says.cell(desk, x, y, 0, stairs ? 2 : plan.floor[x][y] ? 1 : 0);
            }
        }
    }

    /** Left and upper, right and upper, left and lower, right and lower. */
    private static void roomsInTurn() {
        Sentence says = check.says("For ROOMS i = 0, 1, 2, 3 in turn: its width w = 2 + DRAW(3), "
            + "its height h = 2 + DRAW(2), its left COLUMN 6 * (i mod 2) + 1 + DRAW(5 - w), "
            + "its top ROW 5 * (i / 2) + 1 + DRAW(4 - h)");
        Plan plan = new Plan(1, 1);
        roomIs(says, plan, 0, 1, 1, 3, 2);
        roomIs(says, plan, 1, 8, 2, 3, 2);
        roomIs(says, plan, 2, 2, 7, 2, 2);
        roomIs(says, plan, 3, 7, 6, 4, 3);
        says.picture(new Desk(1), 0,
            "############",
            "#...########",
            "#...####...#",
            "##.........#",
            "#########.##",
            "#########.##",
            "#######....#",
            "##..###....#",
            "##>........#",
            "############");
    }

    private static void roomIs(Sentence says, Plan plan, int i, int left, int top, int width, int height) {
        says.holds("room " + i, plan.left[i] == left && plan.top[i] == top && plan.width[i] == width
            && plan.height[i] == height);
    }

    private static void roomsAreFloor() {
        Sentence says = check.says("its CELLS are FLOOR");
        for (int seed : seeds()) {
            Desk desk = new Desk(seed);
            Plan plan = new Plan(seed, 1);
            for (int i = 0; i < 4; i++) {
                for (int cell = 0; cell < plan.width[i] * plan.height[i]; cell++) {
                    int x = plan.left[i] + cell % plan.width[i];
                    int y = plan.top[i] + cell / plan.width[i];
                    says.holds(desk.told() + ": (" + x + ", " + y + ")", desk.cell(x, y, 0) != 0);
                }
            }
        }
    }

    /** No way leads from room 0 to room 2: these two are joined by the others alone. */
    private static void waysBetweenTheRooms() {
        Sentence says = check.says("Then WAYS from the CENTRE of ROOM 0 to that of ROOM 1, from 1 to 3, from 3 to 2");
        for (int seed : seeds()) {
            Desk desk = new Desk(seed);
            floorIs(says, desk, new Plan(seed, 1));
            for (int x = 0; x <= 5; x++) {
                says.cell(desk, x, 4, 0, 0);
                says.cell(desk, x, 5, 0, 0);
            }
        }
    }

    /**
     * With seed 75 all three by the row first: from (3, 2) to (9, 3), to (10, 8), to (2, 7). With seed 116 all by
     * the column first: from (3, 2) to (8, 3), to (9, 7), to (3, 8).
     */
    private static void waysOfBothForms() {
        Sentence says = check.says("from (a, b) to (c, d): with DRAW(2) = 0 all CELLS of ROW b from COLUMN a to c "
            + "and all of COLUMN c from ROW b to d are FLOOR, else all of COLUMN a from ROW b to d "
            + "and all of ROW d from COLUMN a to c");
        says.picture(new Desk(75), 0,
            "############",
            "#....#######",
            "#.........##",
            "########...#",
            "##########.#",
            "##########.#",
            "#...######.#",
            "#...#####..#",
            "#>.........#",
            "############");
        says.picture(new Desk(116), 0,
            "############",
            "#....#######",
            "#....##...##",
            "#.........##",
            "########.###",
            "########.###",
            "#######....#",
            "##.>###....#",
            "##.........#",
            "############");
    }

    private static void stairsAreInRoomTwo() {
        Sentence says = check.says("The STAIRS are in ROOM 2, at COLUMN left + DRAW(w), ROW top + DRAW(h)");
        says.cell(new Desk(1), 2, 8, 0, 2);
        for (int seed : seeds()) {
            Plan plan = new Plan(seed, 1);
            says.cell(new Desk(seed), plan.stairsX, plan.stairsY, 0, 2);
        }
    }

    private static void thePlayerIsInRoomZero() {
        Sentence says = check.says("The PLAYER is at the CENTRE of ROOM 0");
        says.playerAt(new Desk(1), 2, 2);
        for (int seed : seeds()) {
            Plan plan = new Plan(seed, 1);
            says.playerAt(new Desk(seed), plan.centreX(0), plan.centreY(0));
        }
        Plan below = new Plan(3447, 2);
        says.playerAt(Desk.after(3447, "lllljjjjhhhhhhhh>"), below.centreX(0), below.centreY(0));
    }

    private static void monstersAreDrawn() {
        Sentence says = check.says("Then 2 + d times: a KIND = DRAW(3), a ROOM 1 + DRAW(3), "
            + "in it COLUMN left + DRAW(w), ROW top + DRAW(h): a MONSTER is there");
        says.monsterIs(new Desk(1), 0, 2, 3, 8);
        says.monsterIs(new Desk(1), 1, 1, 9, 8);
        says.monsterIs(new Desk(1), 2, 0, 3, 7);
        for (int seed : seeds()) {
            monstersAre(says, new Desk(seed), new Plan(seed, 1));
        }
        monstersAre(says, Desk.after(3447, "lllljjjjhhhhhhhh>"), new Plan(3447, 2));
        monstersAre(says, Desk.after(3447, "lllljjjjhhhhhhhh>lllljjjjjjhhhhk>"), new Plan(3447, 3));
    }

    private static void monstersAre(Sentence says, Desk desk, Plan plan) {
        int i = 0;
        for (int[] drawn : plan.monsters) {
            boolean first = plan.monsters.stream().filter(m -> m[1] == drawn[1] && m[2] == drawn[2])
                .findFirst().get() == drawn;
            if (first) {
                says.monsterIs(desk, i, drawn[0], drawn[1], drawn[2]);
                i++;
            }
        }
        says.count(desk, 3, i);
    }

    private static void thingsAreDrawn() {
        Sentence says = check.says("Then three times: a KIND = DRAW(4), a ROOM DRAW(4), in it COLUMN left + DRAW(w), "
            + "ROW top + DRAW(h): a THING is there");
        says.cell(new Desk(1), 8, 2, 4, 1 + 3);
        says.cell(new Desk(1), 9, 2, 4, 1 + 1);
        says.cell(new Desk(1), 3, 8, 4, 1 + 2);
        says.count(new Desk(1), 5, 3);
        for (int seed : seeds()) {
            Desk desk = new Desk(seed);
            Plan plan = new Plan(seed, 1);
            for (int[] drawn : plan.things) {
                int[] first = plan.things.stream().filter(t -> t[1] == drawn[1] && t[2] == drawn[2])
                    .findFirst().get();
                boolean stairs = drawn[1] == plan.stairsX && drawn[2] == plan.stairsY;
                says.cell(desk, drawn[1], drawn[2], 4, stairs ? 0 : 1 + first[0]);
            }
        }
    }

    /** Monster 1 with seed 726, which sleeps far away; the rat of seed 10 comes to the player. */
    private static void rats() {
        Sentence says = check.says("MONSTERS: KIND 0 RAT: HEALTH 3, SPEED 8, HIT 1");
        says.monsterIs(new Desk(726), 1, 0, 7, 7, 3, 0, 0);
        says.monster(Desk.after(726, "."), 1, 4, 8);
        says.monster(Desk.after(726, ".."), 1, 4, 16 - 10);
        says.player(Desk.after(10, "ll"), 2, 10);
        says.player(Desk.after(10, "lll"), 2, 10 - 1);
    }

    private static void orcs() {
        Sentence says = check.says("1 ORC: HEALTH 6, SPEED 6, HIT 2");
        says.monsterIs(new Desk(726), 0, 1, 8, 7, 6, 0, 0);
        says.monster(Desk.after(726, "."), 0, 4, 6);
        says.monster(Desk.after(726, ".."), 0, 4, 12 - 10);
        says.player(Desk.after(3153, "llll"), 2, 8);
        says.player(Desk.after(3153, "lllll"), 2, 8 - 2);
    }

    private static void bats() {
        Sentence says = check.says("2 BAT: HEALTH 2, SPEED 14, HIT 1");
        says.monsterIs(new Desk(726), 2, 2, 7, 2, 2, 0, 0);
        says.monster(Desk.after(726, "."), 2, 4, 14 - 10);
        says.monster(Desk.after(726, ".."), 2, 4, 28 - 20);
        says.player(Desk.after(3483, "l"), 2, 10);
        says.player(Desk.after(3483, "ll"), 2, 10 - 1);
    }

    private static void thePlayersNumbers() {
        Sentence says = check.says("The PLAYER has HEALTH 10 at first (at most), SPEED 10, HIT 1 at first, HASTE 0, "
            + "ENERGY 10, and a BAG of at most 4 THINGS");
        for (int seed : seeds()) {
            Desk desk = new Desk(seed);
            says.playerIs(desk, desk.player(0), desk.player(1), 10, 1, 10, 0, 1, 0);
            says.bag(desk);
        }
        says.player(Desk.after(1, "."), 4, 10);
        says.count(Desk.after(1, "...."), 0, 4);
    }

    /** Where the rows differ by more than the columns, the half of a column counts as the greater one. */
    private static void steepLines() {
        Sentence says = check.says("THE LINE from a CELL to another one, n being the greater one of the differences "
            + "dx and dy of COLUMNS and ROWS without signs: it is CLEAR if for k = 1 to n - 1 the CELL whose COLUMN "
            + "is that of the first one and (2 k dx + n) / (2 n) more");
        says.cell(new Desk(1), 1, 4, 1, 1);
        says.cell(Desk.after(1, "k"), 1, 4, 1, 0);
        says.cell(Desk.after(1, "k"), 0, 4, 1, 0);
        says.cell(Desk.after(1, "h"), 2, 4, 1, 1);
        says.cell(Desk.after(0, "l"), 4, 1, 1, 0);
        says.cell(Desk.after(3, "l"), 4, 0, 1, 0);
        says.cell(Desk.after(3, "l"), 4, 4, 1, 0);
    }

    private static void flatLines() {
        Sentence says = check.says("its ROW that of the first one and (2 k dy + n) / (2 n) more "
            + "(dx, dy with signs now, / rounded down), is FLOOR");
        Desk desk = Desk.after(222, "llllll");
        says.picture(desk, 1,
            "--x----xxxx-",
            "--xxxxxxxxx-",
            "--xxxxxxxxx-",
            "--xx-xxxxxx-",
            "-------xxx--",
            "---------x--",
            "---------x--",
            "------------",
            "------------",
            "------------");
    }

    private static void wallsAreSeenAndFloorIs() {
        Sentence says = check.says("A CELL is SEEN if its COLUMN and ROW differ from those of the PLAYER by at most 4, "
            + "and the LINE from the PLAYER to it is CLEAR");
        says.picture(new Desk(1), 1,
            "xxxxx-------",
            "xxxxx-------",
            "xxxxx-------",
            "-xxxxxx-----",
            "-xxxxx------",
            "------------",
            "------------",
            "------------",
            "------------",
            "------------");
    }

    private static void distancesGoFromNeighbourToNeighbour() {
        Sentence says = check.says("THE DISTANCE of a FLOOR CELL is the least number of steps from NEIGHBOUR "
            + "to NEIGHBOUR over FLOOR");
        Desk desk = new Desk(1);
        says.cell(desk, 2, 2, 5, 0);
        says.cell(desk, 2, 1, 5, 1);
        says.cell(desk, 1, 1, 5, 2);
        says.cell(desk, 3, 3, 5, 2);
        says.cell(desk, 9, 3, 5, 8);
        says.cell(desk, 9, 8, 5, 13);
        says.cell(desk, 2, 8, 5, 20);
        says.cell(desk, 2, 7, 5, 21);
    }

    private static void sleepersStay() {
        Sentence says = check.says("A MONSTER ACTS: if it is asleep, it is awake if it is at most 4 COLUMNS and ROWS");
        Desk desk = Desk.after(726, "..........");
        says.monsterIs(desk, 0, 1, 8, 7, 6, 0, 0);
        says.monsterIs(desk, 1, 0, 7, 7, 3, 0, 0);
    }

    private static void ratsCome() {
        Sentence says = check.says("If it is awake: a RAT looks at the NEIGHBOURS that are FLOOR without a MONSTER, "
            + "and takes the first one of those with the least DISTANCE");
        Desk desk = Desk.after(10, "lllhh");
        says.playerAt(desk, 4, 2);
        says.monster(desk, 0, 0, 0);
        says.monsterAt(desk, 0, 5, 2);
    }

    private static void batsDraw() {
        Sentence says = check.says("A BAT takes NEIGHBOUR number DRAW(4) of PLAY (0 the first one)");
        Desk desk = Desk.after(6, "ll");
        says.hash(desk, Sums.hash(desk, Sums.drawn(6)));
    }

    private static void aHitTakesHealth() {
        Sentence says = check.says("It HITS: the HEALTH of the PLAYER is less by its HIT");
        Desk desk = Desk.after(3153, "llll");
        says.player(desk, 2, 8);
        desk.key('l');
        says.player(desk, 2, 6);
    }

    /** Seed 20 has haste at the feet of the player. */
    private static void energyGoesAndComes() {
        Sentence says = check.says("TIME PASSES behind a KEY that takes time: the ENERGY of the PLAYER is 10 less; "
            + "then, as long as it is below 10 and the PLAYER is not DEAD, a TICK: the ENERGY is 10 more, "
            + "or, if HASTE is above 0, 20 more and HASTE 1 less");
        Desk desk = Desk.after(20, "g");
        says.player(desk, 4, 10);
        says.count(desk, 0, 1);
        int[] energy = {20, 10, 20, 10, 20, 10, 20, 10, 20, 10, 20, 10, 10, 10};
        int[] haste = {5, 5, 4, 4, 3, 3, 2, 2, 1, 1, 0, 0, 0, 0};
        int[] ticks = {2, 2, 3, 3, 4, 4, 5, 5, 6, 6, 7, 7, 8, 9};
        for (int k = 0; k < energy.length; k++) {
            says.key(desk, k == 0 ? 'a' : '.', 1);
            says.player(desk, 4, energy[k]);
            says.player(desk, 5, haste[k]);
            says.count(desk, 0, ticks[k]);
        }
    }

    /** Both would go to the same cell, and the one with the lesser number is there first. */
    private static void monstersByNumbers() {
        Sentence says = check.says("then each MONSTER in turn, by numbers, gets its SPEED more ENERGY");
        Desk orcFirst = Desk.after(268, "llll");
        says.monsterIs(orcFirst, 0, 1, 7, 2);
        says.monsterIs(orcFirst, 1, 0, 7, 1);
        Desk ratFirst = Desk.after(206, "llll");
        says.monsterIs(ratFirst, 0, 0, 8, 2);
        says.monsterIs(ratFirst, 1, 1, 9, 2);
    }

    private static void keysAreNumbers() {
        Sentence says = check.says("KEYS are numbers of characters: 107 k, 108 l, 106 j, 104 h: the PLAYER goes to the "
            + "first, second, third, fourth NEIGHBOUR");
        Desk desk = new Desk(1);
        says.key(desk, 107, 1);
        says.playerAt(desk, 2, 1);
        says.key(desk, 108, 1);
        says.playerAt(desk, 3, 1);
        says.key(desk, 106, 1);
        says.playerAt(desk, 3, 2);
        says.key(desk, 104, 1);
        says.playerAt(desk, 2, 2);
    }

    private static void takingIsAKey() {
        Sentence says = check.says("103 g: the THING in the CELL comes to the end of the BAG");
        Desk desk = new Desk(87);
        says.cell(desk, 3, 2, 4, 1);
        says.key(desk, 103, 1);
        says.cell(desk, 3, 2, 4, 0);
        says.bag(desk, 0);
    }

    private static void jumpsCountRowByRow() {
        Sentence says = check.says("2 the PLAYER is at the FLOOR CELL number DRAW(n) of PLAY (0 the first one) "
            + "of the n FLOOR CELLS without a MONSTER, ROW by ROW from the top, each from COLUMN 0 on");
        for (int seed : new int[] {7, 1391, 3368, 2090, 2133, 424}) {
            Desk desk = Desk.after(seed, seed == 1391 || seed == 3368 ? "kg" : "g");
            List<int[]> free = new ArrayList<>();
            for (int y = 0; y < 10; y++) {
                for (int x = 0; x < 12; x++) {
                    if (desk.cell(x, y, 0) != 0 && desk.cell(x, y, 3) < 2) {
                        free.add(new int[] {x, y});
                    }
                }
            }
            int[] due = free.get(Sums.answer(Sums.drawn(seed), free.size()));
            says.key(desk, 'a', 1);
            says.playerAt(desk, due[0], due[1]);
        }
    }

    private static void stairsAreAKey() {
        Sentence says = check.says("62 >: BLOCKED if the STAIRS are not in the CELL");
        Desk desk = Desk.after(68, "khga");
        says.cell(desk, desk.player(0), desk.player(1), 0, 2);
        says.key(desk, 62, 1);
        says.player(desk, 6, 2);
        says.key(desk, 62, 0);
        says.player(desk, 6, 2);
    }

    private static void refusedNumbers() {
        Sentence says = check.says("A number is not as said");
        says.holds("REFUSED is -1", DungeonDesk.REFUSED == -1);
        Desk desk = new Desk(1);
        says.key(desk, 'x', -1);
        says.rewind(desk, 1, -1);
        says.cell(desk, 12, 0, 0, -1);
        says.monster(desk, 0, 6, -1);
        says.player(desk, 8, -1);
        says.count(desk, 11, -1);
    }

    private static void refusedWhenOver() {
        Sentence says = check.says("or the game is over");
        says.key(Games.dead(), '.', -1);
        says.key(Games.won(), '.', -1);
    }

    private static void noneOfThese() {
        Sentence says = check.says("There is no such thing");
        says.holds("NONE is -2", DungeonDesk.NONE == -2);
        Desk desk = new Desk(1);
        says.cell(desk, 0, 0, 5, -2);
        says.monster(desk, 3, 0, -2);
        says.player(desk, 10, -2);
        says.recorded(desk, 0, -2);
    }
}
