/** Promise 1: how the game begins. */
public final class NewObjectTest {
    private static final Check check = new Check();

    public static void main(String[] args) {
        levelOneIsMade();
        aMonsterIsNotMadeWhereOneIs();
        aThingIsNotLaidWhereOneOrTheStairsAre();
        theLeastSeed();
        everySeedBeginsAlike();
        sameSeedSameGame();
        check.end();
    }

    private static void levelOneIsMade() {
        Sentence says = check.says("The game begins: LEVEL 1 IS MADE with this seed");
        Desk desk = new Desk(1);
        says.picture(desk, 0,
            "############",
            "#...########",
            "#...####...#",
            "##.........#",
            "#########.##",
            "#########.##",
            "#######....#",
            "##..###....#",
            "##>........#",
            "############");
        says.picture(desk, 3,
            "            ",
            "            ",
            "  @         ",
            "            ",
            "            ",
            "            ",
            "            ",
            "   r        ",
            "   b     o  ",
            "            ");
        says.picture(desk, 4,
            "            ",
            "            ",
            "        31  ",
            "            ",
            "            ",
            "            ",
            "            ",
            "            ",
            "   2        ",
            "            ");
        says.hash(desk, 8441662145234332200L);
    }

    private static void aMonsterIsNotMadeWhereOneIs() {
        Desk desk = new Desk(5);
        check.due("seed 5: monsters", desk.count(3), 2);
        Picture.due(check, "seed 5", desk, 3,
            "            ",
            "            ",
            "   @        ",
            "            ",
            "            ",
            "            ",
            "   b        ",
            "  o         ",
            "            ",
            "            ");
    }

    private static void aThingIsNotLaidWhereOneOrTheStairsAre() {
        Desk stairs = new Desk(4);
        check.due("seed 4: things", stairs.count(5), 2);
        check.due("seed 4: the stairs", stairs.cell(2, 7, 0), 2);
        check.due("seed 4: no thing on them", stairs.cell(2, 7, 4), 0);
        Desk twice = new Desk(9);
        check.due("seed 9: things", twice.count(5), 2);
        check.due("seed 9: the first one stays", twice.cell(9, 2, 4), 1 + 3);
    }

    private static void theLeastSeed() {
        Desk desk = new Desk(Integer.MIN_VALUE);
        Picture.due(check, "least seed", desk, 0,
            "############",
            "#....#######",
            "#....##....#",
            "#..........#",
            "#########.##",
            "#########.##",
            "#########.##",
            "#....##...##",
            "#...>.....##",
            "############");
        Picture.due(check, "least seed", desk, 4,
            "            ",
            "  2         ",
            "        3   ",
            "            ",
            "            ",
            "            ",
            "            ",
            "            ",
            "   2        ",
            "            ");
        check.due("least seed: hash", desk.hash(), 6924570596089842091L);
        check.due("greatest seed: hash", new Desk(Integer.MAX_VALUE).hash(), 6406563456849212162L);
    }

    private static void everySeedBeginsAlike() {
        int[] seeds = {0, 1, -1, 2, 1000, -1000, Integer.MAX_VALUE, Integer.MIN_VALUE};
        int[] player = {10, 1, 10, 0, 1, 0};
        for (int seed : seeds) {
            Desk desk = new Desk(seed);
            for (int k = 0; k < player.length; k++) {
                check.due("seed " + seed + ": player(" + (2 + k) + ")", desk.player(2 + k), player[k]);
            }
            for (int what : new int[] {0, 1, 2, 4, 9}) {
                check.due("seed " + seed + ": count(" + what + ")", desk.count(what), 0);
            }
            check.due("seed " + seed + ": recorded(0)", desk.recorded(0), DungeonDesk.NONE);
            for (int i = 0; i < desk.count(3); i++) {
                int kind = desk.monster(i, 0);
                check.due("seed " + seed + ": health", desk.monster(i, 3), kind == 0 ? 3 : kind == 1 ? 6 : 2);
                check.due("seed " + seed + ": energy", desk.monster(i, 4), 0);
                check.due("seed " + seed + ": awake", desk.monster(i, 5), 0);
            }
        }
    }

    private static void sameSeedSameGame() {
        Desk one = new Desk(-7);
        Desk other = new Desk(-7);
        one.keys("llll");
        check.due("a new object knows nothing of another", other.count(1), 0);
        other.keys("llll");
        check.holds("same seed, same keys, same state", Picture.whole(one).equals(Picture.whole(other)));
        check.holds("another seed, another game", one.hash() != new Desk(-6).hash());
    }
}
