/** The edges in the terms: cells, streams, and how a level is made. */
public final class EdgesOfMakingTest {
    private static final Check check = new Check();

    public static void main(String[] args) {
        columnsAndRowsHaveEnds();
        thereIsOneStair();
        streamsWrap();
        drawsAreOfUnsignedNumbers();
        makingBeginsWithTheSeedAsLong();
        narrowestAndWidestRooms();
        placesOfTheWidestRooms();
        centresOfOddAndEvenRooms();
        waysByTheRowFirst();
        waysByTheColumnFirst();
        wayWithoutATurn();
        aSecondMonsterIsNotMade();
        moreMonstersBelow();
        aSecondThingIsNotLaid();
        noThingIsLaidOnTheStairs();
        monstersStandOnStairs();
        theOutermostCellsAreWalls();
        check.end();
    }

    private static void columnsAndRowsHaveEnds() {
        Sentence says = check.says("There are COLUMNS 0 to 11 and ROWS 0 to 9");
        Desk desk = new Desk(1);
        for (int what = 0; what <= 4; what++) {
            says.cell(desk, 0, 9, what, 0);
            says.cell(desk, 11, 0, what, 0);
            says.cell(desk, 11, 9, what, 0);
        }
        says.cell(desk, -1, 0, 0, DungeonDesk.REFUSED);
        says.cell(desk, 12, 0, 0, DungeonDesk.REFUSED);
        says.cell(desk, 0, -1, 0, DungeonDesk.REFUSED);
        says.cell(desk, 0, 10, 0, DungeonDesk.REFUSED);
        says.cell(desk, -1, 1, 0, DungeonDesk.REFUSED);
        says.cell(desk, 12, 2, 0, DungeonDesk.REFUSED);
    }

    private static void thereIsOneStair() {
        Sentence says = check.says("one FLOOR CELL of a LEVEL has the STAIRS");
        for (int seed = -30; seed < 30; seed++) {
            Desk desk = new Desk(seed * 71582788);
            int stairs = 0;
            for (int place = 0; place < 120; place++) {
                stairs += desk.cell(place % 12, place / 12, 0) == 2 ? 1 : 0;
            }
            says.holds(desk.told() + ": one has them", stairs == 1);
        }
    }

    private static void streamsWrap() {
        Sentence says = check.says("itself times 6364136223846793005, and 1442695040888963407 (wrapping)");
        Desk below = Desk.after(2133, "ga");
        says.hash(below, Sums.hash(below, -658377744131546304L));
        says.hash(below, Sums.hash(below, Sums.drawn(2133)));
        Desk above = Desk.after(1189, "ga");
        says.hash(above, Sums.hash(above, Sums.drawn(1189)));
        Desk least = Desk.after(Integer.MIN_VALUE, "hkga");
        says.hash(least, Sums.hash(least, Sums.drawn(Integer.MIN_VALUE)));
    }

    /** Seed 2133 leaves the stream below 0 as a long, seed 1189 above. */
    private static void drawsAreOfUnsignedNumbers() {
        Sentence says = check.says("DRAW is that >>> 33, mod n");
        for (int seed : new int[] {2133, 414, 1189, 424}) {
            Desk desk = Desk.after(seed, "g");
            int[] places = freePlaces(desk);
            int due = places[Sums.answer(Sums.drawn(seed), places.length)];
            desk.key('a');
            says.playerAt(desk, due % 12, due / 12);
        }
        says.playerAt(Desk.after(2133, "ga"), 2, 7);
        says.playerAt(Desk.after(424, "ga"), 8, 3);
    }

    private static int[] freePlaces(Desk desk) {
        return java.util.stream.IntStream.range(0, 120)
            .filter(place -> desk.cell(place % 12, place / 12, 0) != 0 && desk.cell(place % 12, place / 12, 3) <= 1)
            .toArray();
    }

    private static void makingBeginsWithTheSeedAsLong() {
        Sentence says = check.says("MAKING, which is first (seed + 1) * 1000003 + d (as long)");
        int[] seeds = {Integer.MIN_VALUE, Integer.MIN_VALUE + 1, -2, -1, 0, 1, Integer.MAX_VALUE - 1,
            Integer.MAX_VALUE};
        for (int seed : seeds) {
            levelIsMade(says, new Desk(seed), seed, 1);
        }
        levelIsMade(says, Desk.after(Integer.MAX_VALUE, "lllllllllljjjjhjhhhkkhkk>"), Integer.MAX_VALUE, 2);
        levelIsMade(says, Desk.after(Integer.MIN_VALUE, "khgallgl>"), Integer.MIN_VALUE, 2);
        levelIsMade(says, Desk.after(Integer.MIN_VALUE, "khglljalll>jlllglaghahhhhhkkkkh>"), Integer.MIN_VALUE, 3);
        levelIsMade(says, Desk.after(-1, "jhgklllahhhhhh>gklgjkaajlllllljjjjhgajjhhhhhk>"), -1, 3);
        Picture.due(check, "the greatest seed", new Desk(Integer.MAX_VALUE), 0,
            "############",
            "############",
            "##..####..##",
            "##........##",
            "########.###",
            "########.###",
            "##.>.###.###",
            "##...##..###",
            "##.......###",
            "############");
    }

    private static void levelIsMade(Sentence says, Desk desk, int seed, int d) {
        Model due = new Model(seed, new Model.Seen());
        due.make(d);
        says.player(desk, 6, d);
        says.playerAt(desk, due.x, due.y);
        says.count(desk, 3, due.beasts.size());
        for (int place = 0; place < 120; place++) {
            for (int what : new int[] {0, 3, 4}) {
                says.cell(desk, place % 12, place / 12, what, due.cell(place % 12, place / 12, what));
            }
        }
    }

    /** Room 0 has a width of 2 and a height of 2 with seed -18, of 4 and 3 with seed -9. */
    private static void narrowestAndWidestRooms() {
        Sentence says = check.says("its width w = 2 + DRAW(3), its height h = 2 + DRAW(2)");
        levelIsMade(says, new Desk(-18), -18, 1);
        levelIsMade(says, new Desk(-9), -9, 1);
        Picture.due(check, "room 0 of 2 and 2", new Desk(-18), 0,
            "############",
            "########...#",
            "#..........#",
            "#..#####...#",
            "#########.##",
            "#########.##",
            "#....####.##",
            "#>...##...##",
            "#.........##",
            "############");
        Picture.due(check, "room 0 of 4 and 3", new Desk(-9), 0,
            "############",
            "#....##..###",
            "#........###",
            "#....###.###",
            "########.###",
            "########.###",
            "#..####...##",
            "#.........##",
            "#>.####...##",
            "############");
    }

    /** DRAW(1) can be but 0, and yet it is a draw: all that is made behind it hangs on that. */
    private static void placesOfTheWidestRooms() {
        Sentence says = check.says("its left COLUMN 6 * (i mod 2) + 1 + DRAW(5 - w), its top ROW");
        for (int seed : new int[] {-9, -8, -7, -2, -1, 5, 12, 18, 47, 48}) {
            levelIsMade(says, new Desk(seed), seed, 1);
            says.cell(new Desk(seed), 1, 1, 0, 1);
            says.cell(new Desk(seed), 4, 3, 0, 1);
        }
    }

    private static void centresOfOddAndEvenRooms() {
        Sentence says = check.says("its CENTRE is (left + w / 2, top + h / 2) (/ without remainder)");
        says.playerAt(new Desk(-18), 2, 3);
        says.playerAt(new Desk(-9), 3, 2);
        says.playerAt(new Desk(20), 2, 2);
        says.playerAt(new Desk(28), 3, 2);
    }

    /** To the right, straight and to the left, up, straight and down, as far as rooms lie so. */
    private static void waysByTheRowFirst() {
        Sentence says = check.says("with DRAW(2) = 0 all CELLS of ROW b from COLUMN a to c and all of COLUMN c");
        for (int seed : new int[] {0, 2, 20, 43, 3, 9, 13, 19, 36, 52}) {
            levelIsMade(says, new Desk(seed), seed, 1);
        }
    }

    private static void waysByTheColumnFirst() {
        Sentence says = check.says("else all of COLUMN a from ROW b to d and all of ROW d from COLUMN a to c");
        for (int seed : new int[] {8, 4, 1, 24, 11, 25, 17, 5, 6, 31}) {
            levelIsMade(says, new Desk(seed), seed, 1);
        }
    }

    private static void wayWithoutATurn() {
        Sentence says = check.says("all CELLS of ROW b from COLUMN a to c");
        Desk desk = new Desk(1197);
        for (int x = 1; x <= 10; x++) {
            says.cell(desk, x, 2, 0, 1);
        }
        for (int y = 1; y <= 8; y++) {
            says.cell(desk, 9, y, 0, 1);
            says.cell(desk, 6, y, 0, y == 2 || y == 7 ? 1 : 0);
        }
        says.cell(desk, 8, 4, 0, 0);
        says.cell(desk, 10, 4, 0, 0);
    }

    private static void aSecondMonsterIsNotMade() {
        Sentence says = check.says("unless there is one already; MONSTERS are numbered from 0 as they are made");
        Desk second = new Desk(3);
        says.count(second, 3, 2);
        says.monster(second, 0, 0, 0);
        says.monsterAt(second, 0, 9, 2);
        says.monster(second, 1, 0, 2);
        says.monsterAt(second, 1, 2, 7);
        says.monster(second, 2, 0, DungeonDesk.NONE);
        Desk third = new Desk(5);
        says.count(third, 3, 2);
        says.monster(third, 2, 0, DungeonDesk.NONE);
        Desk both = new Desk(1197);
        says.count(both, 3, 1);
        says.monsterAt(both, 0, 3, 6);
        says.monster(both, 1, 0, DungeonDesk.NONE);
    }

    private static void moreMonstersBelow() {
        Sentence says = check.says("Then 2 + d times");
        says.count(new Desk(1), 3, 3);
        Desk below = Desk.after(399, "jgahgkakh>");
        says.player(below, 6, 2);
        says.count(below, 3, 4);
        Desk desk = Desk.after(3447, "lllljjjjhhhhhhhh>lllljjjjjjhhhhk>");
        says.player(desk, 6, 3);
        says.count(desk, 3, 5);
        says.monster(desk, 4, 0, 2);
        says.monsterAt(desk, 4, 7, 7);
        says.monster(desk, 5, 0, DungeonDesk.NONE);
    }

    private static void aSecondThingIsNotLaid() {
        Sentence says = check.says("a THING is there, unless there is one");
        Desk twice = new Desk(9);
        says.count(twice, 5, 2);
        says.cell(twice, 9, 2, 4, 1 + 3);
        Desk thrice = new Desk(292);
        says.count(thrice, 5, 1);
        says.cell(thrice, 8, 7, 4, 1 + 2);
        says.cell(new Desk(1), 3, 8, 4, 1 + 2);
        says.cell(new Desk(1), 3, 8, 3, 2 + 2);
        says.cell(new Desk(87), 3, 2, 4, 1);
        says.cell(new Desk(87), 3, 2, 3, 1);
    }

    private static void noThingIsLaidOnTheStairs() {
        Sentence says = check.says("a THING is there, unless there is one, or the STAIRS");
        Desk once = new Desk(4);
        says.count(once, 5, 2);
        says.cell(once, 2, 7, 0, 2);
        says.cell(once, 2, 7, 4, 0);
        Desk twice = new Desk(11);
        says.count(twice, 5, 1);
        says.cell(twice, 1, 7, 0, 2);
        says.cell(twice, 1, 7, 4, 0);
        says.cell(twice, 7, 2, 4, 1);
    }

    private static void monstersStandOnStairs() {
        Sentence says = check.says("a MONSTER is there, asleep, with ENERGY 0, unless there is one already");
        Desk desk = new Desk(13);
        says.cell(desk, 3, 6, 0, 2);
        says.cell(desk, 3, 6, 3, 2 + 1);
        says.monster(desk, 1, 4, 0);
        says.monster(desk, 1, 5, 0);
    }

    private static void theOutermostCellsAreWalls() {
        Sentence says = check.says("All CELLS are WALLS");
        for (int seed = -100; seed < 100; seed++) {
            Desk desk = new Desk(seed * 21474836);
            for (int x = 0; x < 12; x++) {
                says.cell(desk, x, 0, 0, 0);
                says.cell(desk, x, 9, 0, 0);
            }
            for (int y = 0; y < 10; y++) {
                says.cell(desk, 0, y, 0, 0);
                says.cell(desk, 11, y, 0, 0);
                says.cell(desk, 0, y, 5, DungeonDesk.NONE);
            }
        }
    }
}
