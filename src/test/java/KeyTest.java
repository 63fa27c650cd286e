/** Promise 2: what each key does and answers. */
public final class KeyTest {
    private static final Check check = new Check();

    public static void main(String[] args) {
        answers();
        goesTheFourWays();
        blockedKeysTakeNoTime();
        otherNumbersAreRefused();
        thingsAreTakenAndUsed();
        theBagHoldsFour();
        hasteGivesTwoTurnsForATick();
        sleepersWakeInSight();
        ratsComeAndHit();
        batsFlutter();
        orcsFleeWhenHurt();
        strikingWakes();
        monstersGo();
        thePlayerDies();
        deathEndsTheActing();
        stairsLeadDown();
        theGameIsWon();
        check.end();
    }

    private static void at(String told, Desk desk, int x, int y) {
        check.due(told + ": column", desk.player(0), x);
        check.due(told + ": row", desk.player(1), y);
    }

    private static void answers() {
        Sentence says = check.says("A KEY: 0 if it was BLOCKED, 1 if it was done, 2 if a MONSTER went by it, "
            + "3 if the PLAYER is DEAD behind it, 4 if the game is WON");
        says.key(Desk.after(1, "h"), 'h', 0);
        says.key(new Desk(1), 'h', 1);
        says.key(Desk.after(726, "lll"), 'l', 2);
        says.key(Desk.after(221, "llllll"), 'l', 3);
        says.key(Desk.after(Games.WINNER, Games.WINS.substring(0, Games.WINS.length() - 1)), '>', 4);
    }

    private static void goesTheFourWays() {
        Desk desk = new Desk(1);
        check.due("k", desk.key(107), 1);
        at("k", desk, 2, 1);
        check.due("l", desk.key(108), 1);
        at("l", desk, 3, 1);
        check.due("j", desk.key(106), 1);
        at("j", desk, 3, 2);
        check.due("h", desk.key(104), 1);
        at("h", desk, 2, 2);
        check.due(".", desk.key(46), 1);
        at(".", desk, 2, 2);
        check.due("each took a tick", desk.count(0), 5);
    }

    private static void blockedKeysTakeNoTime() {
        Desk desk = new Desk(1);
        desk.keys("hk");
        long before = desk.hash();
        for (char c : "khgabcd>".toCharArray()) {
            check.due("blocked " + c, desk.key(c), 0);
        }
        check.due("state behind blocked keys", desk.hash(), before);
        check.due("ticks behind blocked keys", desk.count(0), 2);
        check.due("blocked keys are recorded", desk.count(1), 10);
    }

    private static void otherNumbersAreRefused() {
        Desk desk = new Desk(1);
        desk.key('.');
        String before = Picture.whole(desk);
        for (int c = -130; c <= 300; c++) {
            if ("kljh.gabcd>".indexOf(c) < 0) {
                check.due("key(" + c + ")", desk.key(c), DungeonDesk.REFUSED);
            }
        }
        for (int c : new int[] {Integer.MIN_VALUE, Integer.MAX_VALUE, 107 + 256, 107 + 65536, -107}) {
            check.due("key(" + c + ")", desk.key(c), DungeonDesk.REFUSED);
        }
        check.holds("nothing changed by refused keys", before.equals(Picture.whole(desk)));
    }

    private static void thingsAreTakenAndUsed() {
        Desk full = new Desk(87);
        check.due("g", full.key(103), 1);
        check.due("in the bag", full.player(10), 0);
        check.due("off the floor", full.cell(3, 2, 4), 0);
        check.due("a", full.key(97), 1);
        check.due("health is 10 at most", full.player(2), 10);
        check.due("used up", full.player(7), 0);
        check.due("taking and using take time", full.count(0), 2);

        Desk weak = new Desk(2269);
        weak.keys("lllllllkg");
        int health = weak.player(2);
        weak.key('a');
        check.due("health 5 more, and then a hit of the orc", weak.player(2), health + 5 - 2);

        Desk sharp = new Desk(50);
        sharp.keys("ga");
        check.due("hit", sharp.player(3), 2);

        Desk jump = new Desk(7);
        jump.keys("ga");
        at("jump", jump, 8, 8);
        check.due("known from there", jump.count(8), 49);
        check.due("distance from there", jump.cell(3, 2, 5), 13);

        Desk bag = new Desk(805);
        bag.keys("lllllllljjjgljghhhghhh>lg");
        bagIs("four things", bag, 2, 3, 0, 1);
        check.due("b", bag.key('b'), 1);
        bagIs("those behind move up", bag, 2, 0, 1);
        check.due("d without such a thing", bag.key('d'), 0);
        check.due("c", bag.key('c'), 1);
        bagIs("the last one", bag, 2, 0);
        check.due("hit", bag.player(3), 2);
        check.due("b", bag.key(98), 1);
        check.due("b again", bag.key(98), 0);
        bagIs("one is left", bag, 2);
    }

    private static void bagIs(String told, Desk desk, int... kinds) {
        check.due(told + ": number", desk.player(7), kinds.length);
        for (int k = 0; k < 4; k++) {
            check.due(told + ": " + k, desk.player(10 + k), k < kinds.length ? kinds[k] : DungeonDesk.NONE);
        }
    }

    private static void theBagHoldsFour() {
        Desk desk = new Desk(1414);
        desk.keys("lglllgjgljjjjhhhhk>ghh");
        long before = desk.hash();
        check.due("bag", desk.player(7), 4);
        check.due("a thing is here", desk.cell(desk.player(0), desk.player(1), 4), 2);
        check.due("g with four", desk.key('g'), 0);
        check.due("nothing changed", desk.hash(), before);
    }

    private static void hasteGivesTwoTurnsForATick() {
        Desk desk = new Desk(20);
        desk.key('g');
        int[] energy = {20, 10, 20, 10, 20, 10, 20, 10, 20, 10, 20, 10, 10, 10};
        int[] haste = {5, 5, 4, 4, 3, 3, 2, 2, 1, 1, 0, 0, 0, 0};
        int[] ticks = {2, 2, 3, 3, 4, 4, 5, 5, 6, 6, 7, 7, 8, 9};
        for (int k = 0; k < energy.length; k++) {
            check.due("haste, key " + k, desk.key(k == 0 ? 'a' : '.'), 1);
            check.due("energy behind key " + k, desk.player(4), energy[k]);
            check.due("haste behind key " + k, desk.player(5), haste[k]);
            check.due("ticks behind key " + k, desk.count(0), ticks[k]);
        }
        Desk again = new Desk(415);
        again.keys("galg");
        check.due("haste before it is used again", again.player(5), 4);
        check.due("energy before it is used again", again.player(4), 20);
        again.key('a');
        check.due("haste is 6, not 6 more", again.player(5), 6);
    }

    private static void sleepersWakeInSight() {
        Desk desk = new Desk(222);
        desk.key('l');
        check.due("one is in sight, but has energy 6 only", desk.count(4), 0);
        desk.key('l');
        check.due("two wake", desk.count(4), 2);
        check.due("the far one sleeps", desk.monster(2, 5), 0);
        check.due("waking is all", desk.monster(1, 1), 7);
        check.due("energy 6 + 6 - 10", desk.monster(1, 4), 2);
    }

    private static void ratsComeAndHit() {
        Desk desk = new Desk(10);
        desk.keys("lll");
        check.due("the rat hit", desk.player(2), 9);
        desk.keys("hh");
        check.due("the rat followed", desk.cell(5, 2, 3), 2);
        check.due("the rat's energy", desk.monster(0, 4), 0);
    }

    private static void batsFlutter() {
        Desk desk = new Desk(726);
        desk.keys("l");
        check.due("awake", desk.monster(2, 5), 1);
        check.due("energy 14 - 10", desk.monster(2, 4), 4);
        desk.key('l');
        check.due("a bat hit", desk.player(2), 9);
        check.due("hash tells the draws of play", desk.hash(), 6188490472605764610L);
        desk.key('l');
        check.due("two draws more", desk.hash(), -2924609175916683897L);
    }

    private static void orcsFleeWhenHurt() {
        Desk desk = new Desk(222);
        desk.keys("llllll");
        check.due("orc with 3", desk.monster(1, 3), 3);
        check.due("stays to fight", desk.cell(7, 2, 3), 3);
        desk.key('l');
        check.due("orc with 2", desk.monster(1, 3), 2);
        check.due("flees up, the first one of two", desk.monster(1, 2), 1);
        check.due("in column 7", desk.monster(1, 1), 7);
        check.due("no hit by it", desk.player(2), 6);
        Desk cornered = new Desk(1640);
        cornered.keys("lllkkkk");
        check.due("no way to flee: column", cornered.monster(0, 1), 7);
        check.due("no way to flee: row", cornered.monster(0, 2), 1);
        check.due("no way to flee: no hit either", cornered.player(2), 6);
    }

    private static void strikingWakes() {
        Desk desk = new Desk(991);
        desk.keys("lga");
        check.due("asleep", desk.monster(2, 5), 0);
        check.due("beside it", desk.player(0), desk.monster(2, 1) + 1);
        check.due("h", desk.key('h'), 1);
        check.due("awake", desk.monster(2, 5), 1);
        check.due("health", desk.monster(2, 3), 5);
        at("striking is no step", desk, 10, 3);
        check.due("awake at once, so that it hit in this tick", desk.player(2), 8);
    }

    private static void monstersGo() {
        Desk desk = new Desk(1106);
        check.due("a monster went", desk.keys("llllklll"), 2);
        check.due("gone", desk.monster(0, 0), DungeonDesk.NONE);
        check.due("nobody there", desk.cell(8, 3, 3), 0);
        check.due("the others keep their numbers", desk.monster(1, 0), 1);
        check.due("count", desk.count(2), 1);
        check.due("next key", desk.key('k'), 1);
    }

    private static void thePlayerDies() {
        Desk desk = new Desk(Games.LOSER);
        check.due("dead", desk.keys(Games.DIES), 3);
        overIs("dead", desk, 1);
        check.due("recorded, too", desk.recorded(Games.DIES.length() - 1), 'k');
        Desk both = new Desk(1246);
        check.due("dead behind the key by which a monster went", both.keys("llllkkkkkk"), 3);
        check.due("it went all the same", both.count(2), 1);
    }

    private static void overIs(String told, Desk desk, int how) {
        check.due(told + ": count(9)", desk.count(9), how);
        String before = Picture.whole(desk);
        for (char c : "kljh.gabcd>".toCharArray()) {
            check.due(told + ": key " + c, desk.key(c), DungeonDesk.REFUSED);
        }
        check.due(told + ": another number", desk.key(5), DungeonDesk.REFUSED);
        check.holds(told + ": nothing changed", before.equals(Picture.whole(desk)));
    }

    private static void deathEndsTheActing() {
        Desk desk = new Desk(1077);
        check.due("dead", desk.keys("lllklll"), 3);
        check.due("monsters behind still get energy, but do not act", desk.monster(2, 4), 12);
    }

    private static void stairsLeadDown() {
        Desk desk = new Desk(399);
        desk.keys("jgahgkakh");
        check.due("energy before", desk.player(4), 20);
        check.due("haste before", desk.player(5), 2);
        check.due(">", desk.key(62), 1);
        check.due("level", desk.player(6), 2);
        check.due("energy", desk.player(4), 10);
        check.due("haste", desk.player(5), 2);
        check.due("no time passed", desk.count(0), 6);
        check.due("what is known here", desk.count(8), 21);
        check.due("known of this level alone", desk.cell(10, 1, 2), 0);
        Picture.due(check, "level 2", desk, 0,
            "############",
            "#######..###",
            "#........###",
            "#...###..###",
            "########.###",
            "########.###",
            "#######...##",
            "##........##",
            "##.>.##...##",
            "############");
        Picture.due(check, "level 2", desk, 3,
            "            ",
            "        o   ",
            "            ",
            "  @         ",
            "            ",
            "            ",
            "            ",
            "   o        ",
            "  r      b  ",
            "            ");
        check.due("> elsewhere", desk.key('>'), 0);
    }

    private static void theGameIsWon() {
        Desk desk = new Desk(Games.WINNER);
        check.due("won", desk.keys(Games.WINS), 4);
        check.due("level", desk.player(6), 3);
        check.due("no time passed", desk.count(0), 52);
        check.due("hash", desk.hash(), -413289275983356015L);
        overIs("won", desk, 2);
        check.due("recorded, too", desk.recorded(Games.WINS.length() - 1), '>');
    }
}
