/** Promise 8: one number for the state. */
public final class HashTest {
    private static final Check check = new Check();

    public static void main(String[] args) {
        int[] seeds = {0, 1, -1, -7, 805, Integer.MAX_VALUE, Integer.MIN_VALUE};
        for (int seed : seeds) {
            Desk desk = new Desk(seed);
            check.due("new, seed " + seed, desk.hash(), told(desk, seed));
            check.due("asking changes nothing", desk.hash(), told(desk, seed));
        }
        fixedStates();
        thePartsThatAreTold();
        playIsPartOfIt();
        theDeadPlayersHealth();
        check.end();
    }

    /** The document's sum, over what the other calls tell, and the stream of play. */
    private static long told(Desk desk, long play) {
        long h = 17;
        for (int what : new int[] {6, 0, 1, 2, 3, 4, 5, 7}) {
            h = h * 1000003 + desk.player(what);
        }
        for (int k = 0; k < desk.player(7); k++) {
            h = h * 1000003 + desk.player(10 + k);
        }
        for (int i = 0; i < 5; i++) {
            for (int what = 0; what <= 5 && desk.monster(i, 0) != DungeonDesk.NONE; what++) {
                h = h * 1000003 + desk.monster(i, what);
            }
        }
        for (int y = 0; y < 10; y++) {
            for (int x = 0; x < 12; x++) {
                if (desk.cell(x, y, 4) != 0) {
                    h = h * 1000003 + 16 * y + x;
                    h = h * 1000003 + desk.cell(x, y, 4) - 1;
                }
            }
        }
        return h * 1000003 + play;
    }

    private static long drawn(long play) {
        return play * 6364136223846793005L + 1442695040888963407L;
    }

    private static void fixedStates() {
        Desk desk = new Desk(1);
        check.due("seed 1", desk.hash(), 8441662145234332200L);
        desk.key('.');
        check.due("seed 1 .", desk.hash(), -1807880231114597046L);
        Desk other = new Desk(-7);
        other.keys("llllllll");
        check.due("seed -7 llllllll", other.hash(), -8556283221354124030L);
    }

    private static void thePartsThatAreTold() {
        Desk rat = new Desk(10);
        rat.keys("lll");
        check.due("a rat is awake, and the bat asleep, so that nothing was drawn", rat.hash(), told(rat, 10));
        Desk hasty = new Desk(20);
        hasty.keys("ga");
        check.due("energy and haste", hasty.hash(), told(hasty, 20));
        Desk gone = new Desk(1106);
        gone.keys("llllklll");
        check.due("a monster is gone", gone.hash(), told(gone, 1106));
        Desk full = new Desk(1414);
        full.keys("lg");
        check.due("a thing in the bag", full.hash(), told(full, 1414));
    }

    private static void playIsPartOfIt() {
        Desk jump = new Desk(7);
        jump.keys("ga");
        check.due("one draw by a jump", jump.hash(), told(jump, drawn(7)));
        Desk bat = new Desk(726);
        bat.keys("ll");
        check.due("one draw by a bat", bat.hash(), told(bat, drawn(726)));
        bat.key('l');
        check.due("three draws by a bat", bat.hash(), told(bat, drawn(drawn(drawn(726)))));
        Desk least = new Desk(Integer.MIN_VALUE);
        least.keys("hkga");
        check.due("a draw of a seed below 0", least.hash(), told(least, drawn(Integer.MIN_VALUE)));
    }

    /** The document sets player(2) to 0 for the dead, but says no such thing of the health in the sum. */
    private static void theDeadPlayersHealth() {
        Desk dead = Games.dead();
        check.due("player(2)", dead.player(2), 0);
        check.due("health 1 less 2 is -1", dead.hash(), -6596070275968486527L);
        Desk even = new Desk(221);
        even.keys("lllllll");
        check.due("health 0", even.hash(), told(even, 221));
    }
}
