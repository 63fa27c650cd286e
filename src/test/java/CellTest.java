/** Promise 4: what is told of a cell. */
public final class CellTest {
    private static final Check check = new Check();

    public static void main(String[] args) {
        theLevelAndWhoIsThere();
        whatIsSeen();
        whatIsKnown();
        distances();
        whoeverStandsThere();
        wrongNumbers();
        check.end();
    }

    private static Desk corridor() {
        Desk desk = new Desk(222);
        desk.keys("llllll");
        return desk;
    }

    private static void theLevelAndWhoIsThere() {
        Sentence ground = check.says("Of a CELL what 0: 0 a WALL, 1 FLOOR, 2 the STAIRS");
        Desk desk = corridor();
        ground.picture(desk, 0,
            "############",
            "#....##...##",
            "#.........##",
            "#....##...##",
            "########.###",
            "########.###",
            "#######...##",
            "#.........##",
            "#.>####...##",
            "############");
        Sentence who = check.says("3: 0 nobody, 1 the PLAYER, 2 + KIND a MONSTER");
        who.picture(desk, 3,
            "            ",
            "            ",
            "      @oo   ",
            "            ",
            "            ",
            "            ",
            "            ",
            "       o    ",
            "            ",
            "            ");
    }

    private static void whatIsSeen() {
        Sentence says = check.says("1: 1 if it is SEEN now, else 0");
        Desk desk = corridor();
        says.picture(desk, 1,
            "--x----xxxx-",
            "--xxxxxxxxx-",
            "--xxxxxxxxx-",
            "--xx-xxxxxx-",
            "-------xxx--",
            "---------x--",
            "---------x--",
            "------------",
            "------------",
            "------------");
        desk.rewind(0);
        says.cell(desk, 6, 1, 1, 0);
        says.cell(desk, 1, 1, 1, 1);
    }

    private static void whatIsKnown() {
        Sentence says = check.says("2: 1 if it is KNOWN, else 0");
        says.picture(corridor(), 2,
            "xxxxxx-xxxx-",
            "xxxxxxxxxxx-",
            "xxxxxxxxxxx-",
            "xxxxxxxxxxx-",
            "xxxxxx-xxx--",
            "---------x--",
            "---------x--",
            "------------",
            "------------",
            "------------");
    }

    private static void distances() {
        Sentence says = check.says("5: its DISTANCE (NONE for a WALL)");
        Desk desk = corridor();
        int[][] due = {
            {-2, -2, -2, -2, -2, -2, -2, -2, -2, -2, -2, -2},
            {-2, 6, 5, 4, 3, -2, -2, 2, 3, 4, -2, -2},
            {-2, 5, 4, 3, 2, 1, 0, 1, 2, 3, -2, -2},
            {-2, 6, 5, 4, 3, -2, -2, 2, 3, 4, -2, -2},
            {-2, -2, -2, -2, -2, -2, -2, -2, 4, -2, -2, -2},
            {-2, -2, -2, -2, -2, -2, -2, -2, 5, -2, -2, -2},
            {-2, -2, -2, -2, -2, -2, -2, 7, 6, 7, -2, -2},
            {-2, 14, 13, 12, 11, 10, 9, 8, 7, 8, -2, -2},
            {-2, 15, 14, -2, -2, -2, -2, 9, 8, 9, -2, -2},
            {-2, -2, -2, -2, -2, -2, -2, -2, -2, -2, -2, -2}};
        for (int y = 0; y < 10; y++) {
            for (int x = 0; x < 12; x++) {
                says.cell(desk, x, y, 5, due[y][x]);
            }
        }
    }

    private static void whoeverStandsThere() {
        Desk desk = new Desk(1);
        check.due("a thing under a monster", desk.cell(3, 8, 4), 3);
        check.due("the monster on it", desk.cell(3, 8, 3), 4);
        Desk on = new Desk(-2147483648);
        on.keys("hk");
        check.due("the player on a thing", on.cell(2, 1, 3), 1);
        check.due("a thing under the player", on.cell(2, 1, 4), 3);
        on.key('g');
        check.due("taken", on.cell(2, 1, 4), 0);
        Desk won = Games.won();
        check.due("the stairs under the player", won.cell(2, 6, 0), 2);
        check.due("the player on the stairs", won.cell(2, 6, 3), 1);
        Desk dead = Games.dead();
        check.due("the dead player is still there", dead.cell(7, 3, 3), 1);
        check.due("and sees", dead.cell(8, 3, 1), 1);
    }

    private static void wrongNumbers() {
        Desk desk = corridor();
        int[] wrong = {-1, 12, 13, 120, Integer.MIN_VALUE, Integer.MAX_VALUE};
        for (int number : wrong) {
            for (int what = 0; what < 6; what++) {
                check.due("column " + number, desk.cell(number, 2, what), DungeonDesk.REFUSED);
                check.due("row " + number, desk.cell(2, number, what), DungeonDesk.REFUSED);
            }
            check.due("what " + number, desk.cell(2, 2, number), DungeonDesk.REFUSED);
        }
        check.due("row 10", desk.cell(2, 10, 0), DungeonDesk.REFUSED);
        check.due("row 9", desk.cell(2, 9, 0), 0);
        check.due("column 11", desk.cell(11, 9, 0), 0);
        check.due("what 6", desk.cell(2, 2, 6), DungeonDesk.REFUSED);
        check.due("what 6 of a wall", desk.cell(0, 0, 6), DungeonDesk.REFUSED);
    }
}
