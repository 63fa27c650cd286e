/** Promise 6: what is told of the player. */
public final class PlayerTest {
    private static final Check check = new Check();

    public static void main(String[] args) {
        playerIs("new", new Desk(1), 2, 2, 10, 1, 10, 0, 1, 0);
        Desk hasty = new Desk(20);
        hasty.keys("ga");
        playerIs("hasty", hasty, 2, 2, 10, 1, 20, 5, 1, 0);
        Desk bag = new Desk(805);
        bag.keys("lllllllljjjgljghhhghhh>lg");
        playerIs("with a bag", bag, 4, 2, 8, 1, 10, 0, 2, 4);
        int[] kinds = {2, 3, 0, 1};
        for (int k = 0; k < 4; k++) {
            check.due("thing " + k, bag.player(10 + k), kinds[k]);
            check.due("no thing " + k, hasty.player(10 + k), DungeonDesk.NONE);
        }
        Desk one = new Desk(87);
        one.key('g');
        check.due("one thing", one.player(10), 0);
        check.due("and no second", one.player(11), DungeonDesk.NONE);
        Desk dead = Games.dead();
        playerIs("dead by an orc with health 1", dead, 7, 3, 0, 1, 10, 0, 1, 0);
        Desk won = Games.won();
        playerIs("won", won, 2, 6, 9, 3, 10, 0, 3, 0);
        for (int what : new int[] {-1, 8, 9, 14, 15, 110, Integer.MIN_VALUE, Integer.MAX_VALUE}) {
            check.due("player(" + what + ")", bag.player(what), DungeonDesk.REFUSED);
        }
        check.end();
    }

    private static void playerIs(String told, Desk desk, int... due) {
        for (int what = 0; what < due.length; what++) {
            check.due(told + ": player(" + what + ")", desk.player(what), due[what]);
        }
    }
}
