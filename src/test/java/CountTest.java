/** Promise 9: what is counted. */
public final class CountTest {
    private static final Check check = new Check();

    public static void main(String[] args) {
        countsAre("new", new Desk(1), 0, 0, 0, 3, 0, 3, 39, 11, 26, 0, 21);
        Desk desk = new Desk(-7);
        desk.keys("llllllllj");
        countsAre("a monster went", desk, 8, 9, 1, 2, 1, 2, 41, 12, 56, 0, 16);
        Desk hasty = new Desk(20);
        hasty.keys("ga........");
        countsAre("haste", hasty, 6, 10, 0, 2, 0, 2, 32, 9, 20, 0, 18);
        Desk below = new Desk(805);
        below.keys("lllllllljjjgljghhhghhh>lg");
        countsAre("level 2, since the beginning", below, 24, 25, 1, 4, 1, 2, 50, 16, 34, 0, 19);
        Desk dead = Games.dead();
        countsAre("dead", dead, 10, 10, 1, 2, 1, 3, 36, 17, 49, 1, 14);
        Desk won = Games.won();
        countsAre("won", won, 52, 61, 2, 4, 3, 0, 42, 6, 91, 2, 22);
        won.rewind(0);
        check.due("ticks begin anew", won.count(0), 0);
        check.due("those that went begin anew", won.count(2), 0);
        for (int what : new int[] {-1, 11, 12, 100, Integer.MIN_VALUE, Integer.MAX_VALUE}) {
            check.due("count(" + what + ")", desk.count(what), DungeonDesk.REFUSED);
        }
        check.end();
    }

    private static void countsAre(String told, Desk desk, int... due) {
        for (int what = 0; what < due.length; what++) {
            check.due(told + ": count(" + what + ")", desk.count(what), due[what]);
        }
    }
}
