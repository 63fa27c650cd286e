/** Promise 9: what is counted. */
public final class CountTest {
    private static final Check check = new Check();

    public static void main(String[] args) {
        Sentence says = check.says("What 0: TICKS since the beginning, 1: RECORDED KEYS, 2: MONSTERS that went by the "
            + "PLAYER since the beginning, 3: MONSTERS on this LEVEL, 4: awake ones of these, 5: THINGS on this LEVEL, "
            + "6: FLOOR CELLS, 7: those SEEN, 8: CELLS KNOWN; 9: 1 if DEAD, 2 if WON, else 0; "
            + "10: the greatest DISTANCE");
        says.countsAre(new Desk(1), 0, 0, 0, 3, 0, 3, 39, 11, 26, 0, 21);
        Desk desk = Desk.after(-7, "llllllllj");
        says.countsAre(desk, 8, 9, 1, 2, 1, 2, 41, 12, 56, 0, 16);
        says.countsAre(Desk.after(20, "ga........"), 6, 10, 0, 2, 0, 2, 32, 9, 20, 0, 18);
        Desk below = Desk.after(805, "lllllllljjjgljghhhghhh>lg");
        says.countsAre(below, 24, 25, 1, 4, 1, 2, 50, 16, 34, 0, 19);
        says.countsAre(Games.dead(), 10, 10, 1, 2, 1, 3, 36, 17, 49, 1, 14);
        Desk won = Games.won();
        says.countsAre(won, 52, 61, 2, 4, 3, 0, 42, 6, 91, 2, 22);
        won.rewind(0);
        check.due("ticks begin anew", won.count(0), 0);
        check.due("those that went begin anew", won.count(2), 0);
        for (int what : new int[] {-1, 11, 12, 100, Integer.MIN_VALUE, Integer.MAX_VALUE}) {
            check.due("count(" + what + ")", desk.count(what), DungeonDesk.REFUSED);
        }
        check.end();
    }
}
