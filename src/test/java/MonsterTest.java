/** Promise 5: what is told of a monster. */
public final class MonsterTest {
    private static final Check check = new Check();

    public static void main(String[] args) {
        Desk fresh = new Desk(726);
        monsterIs("orc", fresh, 0, 1, 8, 7, 6, 0, 0);
        monsterIs("rat", fresh, 1, 0, 7, 7, 3, 0, 0);
        monsterIs("bat", fresh, 2, 2, 7, 2, 2, 0, 0);
        fresh.keys("lll");
        monsterIs("orc asleep", fresh, 0, 1, 8, 7, 6, 8, 0);
        monsterIs("rat asleep", fresh, 1, 0, 7, 7, 3, 4, 0);
        monsterIs("bat struck", fresh, 2, 2, 7, 2, 1, 2, 1);
        fresh.key('l');
        for (int what = 0; what <= 5; what++) {
            check.due("gone, what " + what, fresh.monster(2, what), DungeonDesk.NONE);
            for (int i : new int[] {-1, 3, 4, 5, 6, 100, Integer.MIN_VALUE, Integer.MAX_VALUE}) {
                check.due("monster(" + i + ", " + what + ")", fresh.monster(i, what), DungeonDesk.NONE);
            }
        }
        for (int what : new int[] {-1, 6, 7, Integer.MIN_VALUE, Integer.MAX_VALUE}) {
            for (int i : new int[] {0, 2, 3, -1, 99}) {
                check.due("monster(" + i + ", " + what + ")", fresh.monster(i, what), DungeonDesk.REFUSED);
            }
        }
        numbersBeginAnewOnALevel();
        check.end();
    }

    private static void monsterIs(String told, Desk desk, int i, int... due) {
        for (int what = 0; what < due.length; what++) {
            check.due(told + ": what " + what, desk.monster(i, what), due[what]);
        }
    }

    private static void numbersBeginAnewOnALevel() {
        Desk desk = new Desk(399);
        desk.keys("jgahgkakh>");
        monsterIs("level 2", desk, 0, 0, 2, 8, 3, 0, 0);
        monsterIs("level 2", desk, 1, 2, 9, 8, 2, 0, 0);
        monsterIs("level 2", desk, 2, 1, 3, 7, 6, 0, 0);
        monsterIs("level 2", desk, 3, 1, 8, 1, 6, 0, 0);
        check.due("no more than four", desk.monster(4, 0), DungeonDesk.NONE);
    }
}
