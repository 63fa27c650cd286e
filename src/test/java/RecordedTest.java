/** Promise 7: the keys that are recorded. */
public final class RecordedTest {
    private static final Check check = new Check();

    public static void main(String[] args) {
        Desk desk = new Desk(1);
        check.due("nothing recorded", desk.recorded(0), DungeonDesk.NONE);
        desk.keys("kljh.gabcd>");
        desk.key('x');
        desk.key(-1);
        desk.key('.');
        recordIs("all keys, blocked or not, and no others", desk, "kljh.gabcd>.");
        desk.rewind(4);
        recordIs("behind a rewind", desk, "kljh");
        Desk dead = new Desk(221);
        dead.keys("lllllllll");
        recordIs("the dead press no keys", dead, "lllllll");
        for (int k : new int[] {-1, -2, 512, 513, Integer.MIN_VALUE, Integer.MAX_VALUE}) {
            check.due("recorded(" + k + ")", desk.recorded(k), DungeonDesk.NONE);
        }
        aFullRecord();
        check.end();
    }

    private static void recordIs(String told, Desk desk, String keys) {
        check.due(told + ": number", desk.count(1), keys.length());
        for (int k = 0; k < keys.length(); k++) {
            check.due(told + ": " + k, desk.recorded(k), keys.charAt(k));
        }
        check.due(told + ": behind the last", desk.recorded(keys.length()), DungeonDesk.NONE);
    }

    private static void aFullRecord() {
        DungeonDesk desk = new DungeonDesk(1);
        for (int k = 0; k < 510; k++) {
            check.due("key " + k, desk.key(k % 2 == 0 ? '.' : 'g'), k % 2 == 0 ? 1 : 0);
        }
        check.due("recorded(509)", desk.recorded(509), 'g');
        check.due("key 511", desk.key('h'), 1);
    }
}
