import java.util.ArrayList;
import java.util.List;

/** Promise 3: any earlier state comes back. */
public final class RewindTest {
    private static final Check check = new Check();

    public static void main(String[] args) {
        everyStateComesBack(Games.WINNER, Games.WINS);
        everyStateComesBack(Games.LOSER, Games.DIES);
        everyStateComesBack(1, "kk>hhgabcd.");
        wrongNumbersChangeNothing();
        theOthersAreRecordedNoMore();
        aGameThatIsOverGoesOn();
        aLongRecord();
        check.end();
    }

    private static void everyStateComesBack(int seed, String keys) {
        List<String> states = new ArrayList<>();
        List<Integer> ticks = new ArrayList<>();
        Desk desk = new Desk(seed);
        for (int n = 0; n <= keys.length(); n++) {
            states.add(Picture.whole(desk));
            ticks.add(desk.count(0));
            if (n < keys.length()) {
                desk.key(keys.charAt(n));
            }
        }
        for (int n = keys.length(); n >= 0; n--) {
            String told = "seed " + seed + ": rewind(" + n + ")";
            check.due(told, desk.rewind(n), ticks.get(n));
            check.holds(told + " brings the state", states.get(n).equals(Picture.whole(desk)));
        }
        desk.keys(keys);
        check.holds("and forth again", states.get(keys.length()).equals(Picture.whole(desk)));
    }

    private static void wrongNumbersChangeNothing() {
        Desk desk = new Desk(-7);
        check.due("rewind(1) of a new object", desk.rewind(1), DungeonDesk.REFUSED);
        check.due("rewind(0) of a new object", desk.rewind(0), 0);
        desk.keys("llllllllj");
        String before = Picture.whole(desk);
        for (int n : new int[] {-1, -2, 10, 11, 512, 513, Integer.MIN_VALUE, Integer.MAX_VALUE}) {
            check.due("rewind(" + n + ")", desk.rewind(n), DungeonDesk.REFUSED);
        }
        check.holds("nothing changed", before.equals(Picture.whole(desk)));
        check.due("rewind to all", desk.rewind(9), 8);
        check.holds("nothing changed by all either", before.equals(Picture.whole(desk)));
    }

    private static void theOthersAreRecordedNoMore() {
        Desk desk = new Desk(-7);
        desk.keys("llllllll");
        desk.rewind(3);
        check.due("recorded", desk.count(1), 3);
        check.due("the fourth", desk.recorded(3), DungeonDesk.NONE);
        check.due("not back again", desk.rewind(4), DungeonDesk.REFUSED);
        desk.key('h');
        check.due("the fourth is another", desk.recorded(3), 'h');
        Desk straight = new Desk(-7);
        straight.keys("lllh");
        check.holds("as if the others never were", Picture.whole(straight).equals(Picture.whole(desk)));
    }

    private static void aGameThatIsOverGoesOn() {
        Desk dead = Games.dead();
        check.due("dead", dead.rewind(9), 9);
        check.due("not dead", dead.count(9), 0);
        check.due("goes on", dead.key('.') != DungeonDesk.REFUSED ? 1 : 0, 1);
        Desk won = Games.won();
        check.due("won", won.rewind(0), 0);
        check.due("not won", won.count(9), 0);
        check.due("level", won.player(6), 1);
        check.due("goes on", won.key('l'), 1);
    }

    /** All 512 calls but a few are keys. */
    private static void aLongRecord() {
        DungeonDesk desk = new DungeonDesk(1);
        for (int k = 0; k < 509; k++) {
            desk.key(k % 2 == 0 ? 'h' : 'l');
        }
        check.due("rewind to 509", desk.rewind(509), 509);
        check.due("recorded", desk.count(1), 509);
        check.due("rewind to 255", desk.rewind(255), 255);
    }
}
