/** The edges in the terms: the line, what is seen and known, the distance. */
public final class EdgesOfSightTest {
    private static final Check check = new Check();

    public static void main(String[] args) {
        theOwnCellIsSeen();
        nothingIsBetweenNeighbours();
        fourAwayIsSeenAndFiveIsNot();
        theCornerOfSight();
        aWallEndsTheLine();
        roundedDown();
        halvesAreRoundedUp();
        knownAtTheBeginning();
        knownBehindAKey();
        knownStays();
        knownOfThisLevelAlone();
        knownBehindAJump();
        distanceOfThePlayer();
        distanceOfWalls();
        distanceWhoeverStandsThere();
        check.end();
    }

    private static void theOwnCellIsSeen() {
        Sentence says = check.says("n being the greater one of the differences dx and dy");
        Desk desk = new Desk(1);
        says.cell(desk, 2, 2, 1, 1);
        says.cell(desk, 2, 2, 2, 1);
        Desk dead = Games.dead();
        says.cell(dead, 7, 3, 1, 1);
    }

    private static void nothingIsBetweenNeighbours() {
        Sentence says = check.says("it is CLEAR if for k = 1 to n - 1");
        Desk desk = Desk.after(1411, "l");
        for (int y = 2; y <= 4; y++) {
            for (int x = 3; x <= 5; x++) {
                says.cell(desk, x, y, 1, 1);
            }
        }
        says.cell(desk, 5, 3, 0, 0);
        says.cell(desk, 6, 3, 1, 0);
        says.cell(desk, 4, 5, 1, 0);
    }

    private static void fourAwayIsSeenAndFiveIsNot() {
        Sentence says = check.says("its COLUMN and ROW differ from those of the PLAYER by at most 4");
        Desk desk = Desk.after(2102, "llll");
        says.playerAt(desk, 8, 2);
        says.cell(desk, 4, 2, 1, 1);
        says.cell(desk, 3, 2, 0, 1);
        says.cell(desk, 3, 2, 1, 0);
        says.cell(desk, 8, 6, 1, 1);
        says.cell(desk, 8, 7, 0, 1);
        says.cell(desk, 8, 7, 1, 0);
        Desk right = new Desk(1415);
        says.cell(right, 7, 2, 1, 1);
        says.cell(right, 8, 2, 0, 1);
        says.cell(right, 8, 2, 1, 0);
        Desk up = Desk.after(3368, "kga");
        says.playerAt(up, 10, 8);
        says.cell(up, 6, 7, 1, 1);
        says.cell(up, 5, 7, 1, 0);
        says.cell(up, 9, 4, 1, 1);
        says.cell(up, 9, 3, 1, 0);
    }

    private static void theCornerOfSight() {
        Sentence says = check.says("its COLUMN and ROW differ from those of the PLAYER by at most 4");
        Desk desk = Desk.after(1, "ljlllllljj");
        says.playerAt(desk, 9, 5);
        says.cell(desk, 5, 9, 1, 1);
        says.cell(desk, 6, 8, 1, 1);
        says.cell(desk, 5, 8, 1, 0);
    }

    private static void aWallEndsTheLine() {
        Sentence says = check.says("and the LINE from the PLAYER to it is CLEAR");
        Desk desk = new Desk(1415);
        says.cell(desk, 3, 4, 0, 0);
        says.cell(desk, 3, 4, 1, 1);
        says.cell(desk, 3, 5, 1, 0);
        says.cell(desk, 1, 2, 0, 0);
        says.cell(desk, 1, 2, 1, 1);
        says.cell(desk, 0, 2, 1, 0);
        says.cell(desk, 7, 1, 0, 1);
        says.cell(desk, 7, 1, 1, 0);
    }

    /** From (2, 3) to (5, 2): behind two steps the row is less by 1, since -1 / 6 rounded down is -1. */
    private static void roundedDown() {
        Sentence says = check.says("(2 k dy + n) / (2 n) more (dx, dy with signs now, / rounded down)");
        Desk desk = new Desk(0);
        says.playerAt(desk, 2, 3);
        says.cell(desk, 4, 2, 0, 0);
        says.cell(desk, 4, 3, 0, 1);
        says.cell(desk, 5, 2, 1, 0);
        says.cell(desk, 6, 2, 1, 0);
        says.cell(desk, 5, 3, 1, 1);
        Desk left = Desk.after(2102, "llll");
        says.cell(left, 5, 1, 1, 0);
        says.cell(left, 5, 3, 1, 0);
    }

    /** From (2, 2) to (4, 1) and to (4, 3): the half step between is that of the greater row. */
    private static void halvesAreRoundedUp() {
        Sentence says = check.says("its ROW that of the first one and (2 k dy + n) / (2 n) more");
        Desk desk = Desk.after(0, "k");
        says.playerAt(desk, 2, 2);
        says.cell(desk, 4, 1, 1, 1);
        says.cell(desk, 0, 1, 1, 1);
        Desk down = Desk.after(1, "k");
        says.playerAt(down, 2, 1);
        says.cell(down, 4, 0, 1, 1);
        says.cell(down, 0, 0, 1, 1);
        says.cell(down, 1, 4, 1, 0);
        says.cell(new Desk(1), 1, 4, 1, 1);
    }

    private static void knownAtTheBeginning() {
        Sentence says = check.says("KNOWN on this LEVEL once it was SEEN at the beginning of the LEVEL");
        for (int seed : new int[] {0, 1, 222, Integer.MIN_VALUE, Integer.MAX_VALUE}) {
            knownIsSeen(says, new Desk(seed));
        }
    }

    private static void knownIsSeen(Sentence says, Desk desk) {
        int seen = 0;
        for (int place = 0; place < 120; place++) {
            int is = desk.cell(place % 12, place / 12, 1);
            seen += is;
            says.cell(desk, place % 12, place / 12, 2, is);
        }
        says.count(desk, 8, seen);
    }

    private static void knownBehindAKey() {
        Sentence says = check.says("or behind a KEY");
        Desk desk = new Desk(1415);
        says.cell(desk, 8, 1, 2, 0);
        desk.key('l');
        says.cell(desk, 8, 1, 1, 1);
        says.cell(desk, 8, 1, 2, 1);
    }

    private static void knownStays() {
        Sentence says = check.says("A CELL is KNOWN on this LEVEL once it was SEEN");
        Desk desk = Desk.after(1415, "l");
        says.cell(desk, 5, 0, 1, 0);
        says.cell(desk, 5, 0, 2, 1);
        desk.keys("h");
        says.cell(desk, 8, 1, 1, 0);
        says.cell(desk, 8, 1, 2, 1);
    }

    private static void knownOfThisLevelAlone() {
        Sentence says = check.says("A CELL is KNOWN on this LEVEL");
        Desk desk = Desk.after(399, "jgahgkakh");
        says.cell(desk, 5, 8, 2, 1);
        desk.key('>');
        says.player(desk, 6, 2);
        says.cell(desk, 5, 8, 2, 0);
        knownIsSeen(says, desk);
    }

    /** The cells on the way of a jump are not seen. */
    private static void knownBehindAJump() {
        Sentence says = check.says("SEEN at the beginning of the LEVEL or behind a KEY");
        Desk desk = Desk.after(3368, "kg");
        says.count(desk, 8, 25);
        desk.key('a');
        says.cell(desk, 9, 4, 2, 1);
        says.cell(desk, 9, 3, 2, 0);
        says.cell(desk, 4, 1, 1, 0);
        says.cell(desk, 4, 1, 2, 1);
        says.count(desk, 8, 50);
    }

    private static void distanceOfThePlayer() {
        Sentence says = check.says("THE DISTANCE of a FLOOR CELL is the least number of steps");
        Desk desk = new Desk(1);
        says.cell(desk, 2, 2, 5, 0);
        desk.key('l');
        says.cell(desk, 3, 2, 5, 0);
        says.cell(desk, 2, 2, 5, 1);
    }

    private static void distanceOfWalls() {
        Sentence says = check.says("its DISTANCE (NONE for a WALL)");
        Desk desk = new Desk(1);
        says.cell(desk, 0, 0, 5, DungeonDesk.NONE);
        says.cell(desk, 11, 9, 5, DungeonDesk.NONE);
        says.cell(desk, 4, 2, 5, DungeonDesk.NONE);
        says.cell(desk, 5, 5, 5, DungeonDesk.NONE);
    }

    /** An orc fills the corridor between the player and all that lies behind it. */
    private static void distanceWhoeverStandsThere() {
        Sentence says = check.says("over FLOOR from it to the PLAYER (whoever stands there)");
        Desk desk = Desk.after(3153, "lllll");
        says.playerAt(desk, 6, 2);
        says.cell(desk, 7, 2, 3, 2 + 1);
        says.cell(desk, 7, 2, 5, 1);
        says.cell(desk, 8, 2, 5, 2);
        says.cell(desk, 8, 6, 5, 6);
        says.cell(desk, 4, 8, 3, 2);
        says.cell(desk, 4, 8, 5, 12);
    }
}
