/** Promise 8: one number for the state. */
public final class HashTest {
    private static final Check check = new Check();

    public static void main(String[] args) {
        int[] seeds = {0, 1, -1, -7, 805, Integer.MAX_VALUE, Integer.MIN_VALUE};
        for (int seed : seeds) {
            Desk desk = new Desk(seed);
            check.due("new, seed " + seed, desk.hash(), Sums.hash(desk, seed));
            check.due("asking changes nothing", desk.hash(), Sums.hash(desk, seed));
        }
        fixedStates();
        thePartsThatAreTold();
        playIsPartOfIt();
        theDeadPlayersHealth();
        check.end();
    }

    private static void fixedStates() {
        Desk desk = new Desk(1);
        check.due("seed 1", desk.hash(), 8441662145234332200L);
        desk.key('.');
        check.due("seed 1 .", desk.hash(), -1807880231114597046L);
        Desk other = new Desk(-7);
        other.keys("llllllll");
        check.due("seed -7 llllllll", other.hash(), -8556283221354124030L);
    }

    private static void thePartsThatAreTold() {
        Desk rat = new Desk(10);
        rat.keys("lll");
        check.due("a rat is awake, and the bat asleep, so that nothing was drawn", rat.hash(), Sums.hash(rat, 10));
        Desk hasty = new Desk(20);
        hasty.keys("ga");
        check.due("energy and haste", hasty.hash(), Sums.hash(hasty, 20));
        Desk gone = new Desk(1106);
        gone.keys("llllklll");
        check.due("a monster is gone", gone.hash(), Sums.hash(gone, 1106));
        Desk full = new Desk(1414);
        full.keys("lg");
        check.due("a thing in the bag", full.hash(), Sums.hash(full, 1414));
    }

    private static void playIsPartOfIt() {
        Desk jump = new Desk(7);
        jump.keys("ga");
        check.due("one draw by a jump", jump.hash(), Sums.hash(jump, Sums.drawn(7)));
        Desk bat = new Desk(726);
        bat.keys("ll");
        check.due("one draw by a bat", bat.hash(), Sums.hash(bat, Sums.drawn(726)));
        bat.key('l');
        check.due("three draws by a bat", bat.hash(), Sums.hash(bat, Sums.drawn(Sums.drawn(Sums.drawn(726)))));
        Desk least = new Desk(Integer.MIN_VALUE);
        least.keys("hkga");
        check.due("a draw of a seed below 0", least.hash(), Sums.hash(least, Sums.drawn(Integer.MIN_VALUE)));
    }

    /** The document sets player(2) to 0 for the dead, but says no such thing of the health in the sum. */
    private static void theDeadPlayersHealth() {
        Desk dead = Games.dead();
        check.due("player(2)", dead.player(2), 0);
        check.due("health 1 less 2 is -1", dead.hash(), -6596070275968486527L);
        Desk even = new Desk(221);
        even.keys("lllllll");
        check.due("health 0", even.hash(), Sums.hash(even, 221));
    }
}
