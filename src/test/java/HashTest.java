/** Promise 8: one number for the state. */
public final class HashTest {
    private static final Check check = new Check();

    public static void main(String[] args) {
        int[] seeds = {0, 1, -1, -7, 805, Integer.MAX_VALUE, Integer.MIN_VALUE};
        for (int seed : seeds) {
            Desk desk = new Desk(seed);
            check.due("new, seed " + seed, desk.hash(), Sums.hash(desk, seed));
            check.due("asking changes nothing", desk.hash(), Sums.hash(desk, seed));
        }
        theNumbersInTheirOrder();
        fixedStates();
        thePartsThatAreTold();
        playIsPartOfIt();
        theDeadPlayersHealth();
        check.end();
    }

    /** New; in haste; with monster 0 gone and the next one awake; with a thing in the bag. */
    private static void theNumbersInTheirOrder() {
        Sentence says = check.says("One number for the state: h is 17 first, then, for each of these numbers in turn, "
            + "h times 1000003 and it (wrapping): LEVEL; COLUMN, ROW, HEALTH, HIT, ENERGY, HASTE of the PLAYER; "
            + "how many THINGS are in the BAG, their KINDS; for each MONSTER that is not gone, by numbers, its KIND, "
            + "COLUMN, ROW, HEALTH, ENERGY, and 1 if it is awake, else 0; for each CELL with a THING, ROW by ROW from "
            + "the top, each from COLUMN 0 on, 16 * ROW + COLUMN and its KIND; PLAY");
        says.hash(new Desk(1), sum(1, 2, 2, 10, 1, 10, 0, 0, 2, 3, 8, 2, 0, 0, 1, 9, 8, 6, 0, 0, 0, 3, 7, 3, 0, 0,
            16 * 2 + 8, 3, 16 * 2 + 9, 1, 16 * 8 + 3, 2, 1));
        says.hash(Desk.after(20, "ga"), sum(1, 2, 2, 10, 1, 20, 5, 0, 1, 7, 2, 6, 2, 0, 2, 7, 3, 2, 8, 0,
            16 * 1 + 3, 1, 16 * 7 + 2, 1, 20));
        says.hash(Desk.after(1106, "llllklll"), sum(1, 7, 3, 3, 1, 10, 0, 0, 1, 7, 2, 5, 8, 1, 1, 4, 7, 6, 8, 0,
            16 * 3 + 3, 1, 16 * 8 + 3, 2, 16 * 8 + 9, 1, 1106));
        says.hash(Desk.after(87, "g"), sum(1, 3, 2, 10, 1, 10, 0, 1, 0, 0, 9, 7, 3, 8, 0, 2, 8, 1, 2, 4, 0, 0, 8, 7, 3,
            8, 0, 16 * 2 + 7, 0, 16 * 3 + 2, 0, 87));
    }

    private static long sum(long... numbers) {
        long h = 17;
        for (long number : numbers) {
            h = h * 1000003 + number;
        }
        return h;
    }

    private static void fixedStates() {
        Desk desk = new Desk(1);
        check.due("seed 1", desk.hash(), 8441662145234332200L);
        desk.key('.');
        check.due("seed 1 .", desk.hash(), -1807880231114597046L);
        Desk other = new Desk(-7);
        other.keys("llllllll");
        check.due("seed -7 llllllll", other.hash(), -8556283221354124030L);
    }

    private static void thePartsThatAreTold() {
        Desk rat = new Desk(10);
        rat.keys("lll");
        check.due("a rat is awake, and the bat asleep, so that nothing was drawn", rat.hash(), Sums.hash(rat, 10));
        Desk hasty = new Desk(20);
        hasty.keys("ga");
        check.due("energy and haste", hasty.hash(), Sums.hash(hasty, 20));
        Desk gone = new Desk(1106);
        gone.keys("llllklll");
        check.due("a monster is gone", gone.hash(), Sums.hash(gone, 1106));
        Desk full = new Desk(1414);
        full.keys("lg");
        check.due("a thing in the bag", full.hash(), Sums.hash(full, 1414));
    }

    private static void playIsPartOfIt() {
        Desk jump = new Desk(7);
        jump.keys("ga");
        check.due("one draw by a jump", jump.hash(), Sums.hash(jump, Sums.drawn(7)));
        Desk bat = new Desk(726);
        bat.keys("ll");
        check.due("one draw by a bat", bat.hash(), Sums.hash(bat, Sums.drawn(726)));
        bat.key('l');
        check.due("three draws by a bat", bat.hash(), Sums.hash(bat, Sums.drawn(Sums.drawn(Sums.drawn(726)))));
        Desk least = new Desk(Integer.MIN_VALUE);
        least.keys("hkga");
        check.due("a draw of a seed below 0", least.hash(), Sums.hash(least, Sums.drawn(Integer.MIN_VALUE)));
    }

    /** The document sets player(2) to 0 for the dead, but says no such thing of the health in the sum. */
    private static void theDeadPlayersHealth() {
        Desk dead = Games.dead();
        check.due("player(2)", dead.player(2), 0);
        check.due("health 1 less 2 is -1", dead.hash(), -6596070275968486527L);
        Desk even = new Desk(221);
        even.keys("lllllll");
        check.due("health 0", even.hash(), Sums.hash(even, 221));
    }
}
