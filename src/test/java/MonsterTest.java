/** Promise 5: what is told of a monster. */
public final class MonsterTest {
    private static final Check check = new Check();

    public static void main(String[] args) {
        anOrcARatAndABat();
        goneAndWrongNumbers();
        numbersBeginAnewOnALevel();
        check.end();
    }

    private static void anOrcARatAndABat() {
        Sentence says = check.says("Of the MONSTER with a number on this LEVEL what 0: its KIND, 1: COLUMN, 2: ROW, "
            + "3: HEALTH, 4: ENERGY, 5: 1 if it is awake, else 0");
        Desk desk = new Desk(726);
        says.monsterIs(desk, 0, 1, 8, 7, 6, 0, 0);
        says.monsterIs(desk, 1, 0, 7, 7, 3, 0, 0);
        says.monsterIs(desk, 2, 2, 7, 2, 2, 0, 0);
        desk.keys("lll");
        says.monsterIs(desk, 0, 1, 8, 7, 6, 8, 0);
        says.monsterIs(desk, 1, 0, 7, 7, 3, 4, 0);
        says.monsterIs(desk, 2, 2, 7, 2, 1, 2, 1);
    }

    private static void goneAndWrongNumbers() {
        Desk fresh = Desk.after(726, "llll");
        for (int what = 0; what <= 5; what++) {
            check.due("gone, what " + what, fresh.monster(2, what), DungeonDesk.NONE);
            for (int i : new int[] {-1, 3, 4, 5, 6, 100, Integer.MIN_VALUE, Integer.MAX_VALUE}) {
                check.due("monster(" + i + ", " + what + ")", fresh.monster(i, what), DungeonDesk.NONE);
            }
        }
        for (int what : new int[] {-1, 6, 7, Integer.MIN_VALUE, Integer.MAX_VALUE}) {
            for (int i : new int[] {0, 2, 3, -1, 99}) {
                check.due("monster(" + i + ", " + what + ")", fresh.monster(i, what), DungeonDesk.REFUSED);
            }
        }
    }

    private static void numbersBeginAnewOnALevel() {
        Sentence says = check.says("Of the MONSTER with a number on this LEVEL");
        Desk desk = Desk.after(399, "jgahgkakh>");
        says.monsterIs(desk, 0, 0, 2, 8, 3, 0, 0);
        says.monsterIs(desk, 1, 2, 9, 8, 2, 0, 0);
        says.monsterIs(desk, 2, 1, 3, 7, 6, 0, 0);
        says.monsterIs(desk, 3, 1, 8, 1, 6, 0, 0);
        says.monster(desk, 4, 0, DungeonDesk.NONE);
    }
}
