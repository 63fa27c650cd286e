/** Promise 6: what is told of the player. */
public final class PlayerTest {
    private static final Check check = new Check();

    public static void main(String[] args) {
        numbers();
        thingsInTheBag();
        wrongNumbers();
        check.end();
    }

    private static void numbers() {
        Sentence says = check.says("Of the PLAYER what 0: COLUMN, 1: ROW, 2: HEALTH (0 if DEAD), 3: HIT, 4: ENERGY, "
            + "5: HASTE, 6: the LEVEL, 7: how many THINGS are in the BAG");
        says.playerIs(new Desk(1), 2, 2, 10, 1, 10, 0, 1, 0);
        says.playerIs(Desk.after(20, "ga"), 2, 2, 10, 1, 20, 5, 1, 0);
        says.playerIs(bearer(), 4, 2, 8, 1, 10, 0, 2, 4);
        says.playerIs(Games.dead(), 7, 3, 0, 1, 10, 0, 1, 0);
        says.playerIs(Games.won(), 2, 6, 9, 3, 10, 0, 3, 0);
    }

    private static Desk bearer() {
        return Desk.after(805, "lllllllljjjgljghhhghhh>lg");
    }

    private static void thingsInTheBag() {
        Sentence says = check.says("10 + k: the KIND of THING k (0 to 3; NONE if there is none)");
        says.bag(bearer(), 2, 3, 0, 1);
        says.bag(Desk.after(20, "ga"));
        says.bag(Desk.after(87, "g"), 0);
    }

    private static void wrongNumbers() {
        Desk bag = bearer();
        for (int what : new int[] {-1, 8, 9, 14, 15, 110, Integer.MIN_VALUE, Integer.MAX_VALUE}) {
            check.due("player(" + what + ")", bag.player(what), DungeonDesk.REFUSED);
        }
    }
}
