/** The edges in the terms: what keys do, what time they take, and which are recorded. */
public final class EdgesOfKeysTest {
    private static final Check check = new Check();

    public static void main(String[] args) {
        thePlayerAtFirst();
        theBagHasRoomForFour();
        wallsBlock();
        aMonsterWithOneStays();
        aMonsterWithNoneIsGone();
        aMonsterBelowNoneIsGone();
        aSleeperThatIsStruckIsAwake();
        thePlayerIsThere();
        nothingIsDoneButTimePasses();
        noThingToTake();
        theFourthThing();
        theFifthThing();
        noSuchThingToUse();
        theLastThingOfFour();
        thoseBehindMoveUp();
        healthIsFiveMore();
        healthIsTenAtMost();
        hitIsOneMore();
        jumpToTheFirstCell();
        jumpToTheLastCell();
        jumpToTheOwnCell();
        hasteIsSix();
        noStairsHere();
        stairsOfLevelsOneAndTwo();
        stairsOfLevelThree();
        energyIsTenBelow();
        energyOfTenNeedsNoTick();
        theLastTickOfHaste();
        keysTakeTime();
        blockedKeysTakeNone();
        blockedKeysAreRecorded();
        otherNumbersAreNotRecorded();
        nothingIsRecordedBehindDeath();
        nothingIsRecordedBehindVictory();
        check.end();
    }

    private static void isBlocked(Sentence says, Desk desk, int c) {
        long hash = desk.hash();
        int ticks = desk.count(0);
        says.key(desk, c, 0);
        says.hash(desk, hash);
        says.count(desk, 0, ticks);
    }

    private static void thePlayerAtFirst() {
        Sentence says = check.says("The PLAYER has HEALTH 10 at first (at most)");
        Desk desk = new Desk(33);
        says.player(desk, 2, 10);
        desk.keys("ga");
        says.player(desk, 2, 10);
    }

    private static void theBagHasRoomForFour() {
        Sentence says = check.says("and a BAG of at most 4 THINGS");
        Desk desk = Desk.after(1414, "lglllgjgljjjjhhhhk>g");
        says.player(desk, 7, 4);
        desk.keys("hhg");
        says.player(desk, 7, 4);
    }

    private static void wallsBlock() {
        Sentence says = check.says("BLOCKED if it is a WALL");
        Desk upperLeft = Desk.after(1, "hk");
        isBlocked(says, upperLeft, 'k');
        isBlocked(says, upperLeft, 'h');
        says.playerAt(upperLeft, 1, 1);
        Desk lowerRight = new Desk(1411);
        isBlocked(says, lowerRight, 'l');
        isBlocked(says, lowerRight, 'j');
        says.playerAt(lowerRight, 4, 3);
    }

    private static void aMonsterWithOneStays() {
        Sentence says = check.says("its HEALTH is less by the HIT of the PLAYER");
        Desk desk = Desk.after(726, "ll");
        says.monster(desk, 2, 3, 2);
        says.key(desk, 'l', 1);
        says.monster(desk, 2, 3, 1);
        says.playerAt(desk, 6, 2);
        says.count(desk, 2, 0);
    }

    private static void aMonsterWithNoneIsGone() {
        Sentence says = check.says("with 0 or less it is gone");
        Desk desk = Desk.after(726, "lll");
        says.monster(desk, 2, 3, 1);
        says.key(desk, 'l', 2);
        says.monster(desk, 2, 3, DungeonDesk.NONE);
        says.playerAt(desk, 6, 2);
        says.count(desk, 2, 1);
        says.count(desk, 3, 2);
        says.key(desk, 'l', 1);
        says.playerAt(desk, 7, 2);
    }

    private static void aMonsterBelowNoneIsGone() {
        Sentence says = check.says("with 0 or less it is gone");
        Desk desk = Desk.after(283, "galll");
        says.player(desk, 3, 2);
        says.monster(desk, 0, 3, 1);
        says.key(desk, 'l', 2);
        says.monster(desk, 0, 3, DungeonDesk.NONE);
        says.cell(desk, 6, 3, 3, 0);
        says.count(desk, 2, 1);
    }

    private static void aSleeperThatIsStruckIsAwake() {
        Sentence says = check.says("if a MONSTER is there, that is awake, and its HEALTH is less");
        Desk desk = Desk.after(991, "lga");
        says.monster(desk, 2, 5, 0);
        says.monster(desk, 2, 3, 6);
        says.monsterAt(desk, 2, 9, 3);
        says.key(desk, 'h', 1);
        says.monster(desk, 2, 5, 1);
        says.monster(desk, 2, 3, 5);
        says.playerAt(desk, 10, 3);
        says.player(desk, 2, 8);
    }

    private static void thePlayerIsThere() {
        Sentence says = check.says("else the PLAYER is there");
        Desk thing = Desk.after(85, "h");
        says.playerAt(thing, 3, 2);
        thing.key('j');
        says.playerAt(thing, 3, 3);
        says.cell(thing, 3, 3, 4, 1 + 3);
        says.bag(thing);
        Desk stairs = Games.won();
        says.cell(stairs, stairs.player(0), stairs.player(1), 0, 2);
    }

    private static void nothingIsDoneButTimePasses() {
        Sentence says = check.says("46 . nothing.");
        Desk desk = new Desk(1);
        says.key(desk, 46, 1);
        says.playerAt(desk, 2, 2);
        says.count(desk, 0, 1);
        says.hash(desk, -1807880231114597046L);
    }

    private static void noThingToTake() {
        Sentence says = check.says("BLOCKED if there is none");
        Desk desk = new Desk(1);
        isBlocked(says, desk, 'g');
        says.bag(desk);
        Desk taken = Desk.after(87, "g");
        isBlocked(says, taken, 'g');
        says.bag(taken, 0);
    }

    private static void theFourthThing() {
        Sentence says = check.says("the THING in the CELL comes to the end of the BAG");
        Desk desk = Desk.after(795, "klgjhllllljjjjjjhgjghhhhhh>lllll");
        says.bag(desk, 2, 1, 2);
        says.key(desk, 'g', 1);
        says.bag(desk, 2, 1, 2, 3);
        says.cell(desk, 7, 2, 4, 0);
    }

    private static void theFifthThing() {
        Sentence says = check.says("or the BAG has 4");
        Desk desk = Desk.after(1414, "lglllgjgljjjjhhhhk>ghh");
        says.bag(desk, 2, 0, 0, 0);
        says.cell(desk, desk.player(0), desk.player(1), 4, 1 + 1);
        isBlocked(says, desk, 'g');
        says.cell(desk, desk.player(0), desk.player(1), 4, 1 + 1);
        says.bag(desk, 2, 0, 0, 0);
        says.key(desk, 'a', 1);
        says.player(desk, 7, 3);
    }

    private static void noSuchThingToUse() {
        Sentence says = check.says("BLOCKED if there is no such THING");
        Desk empty = new Desk(1);
        for (int c = 'a'; c <= 'd'; c++) {
            isBlocked(says, empty, c);
        }
        Desk one = Desk.after(87, "g");
        for (int c = 'b'; c <= 'd'; c++) {
            isBlocked(says, one, c);
        }
        says.key(one, 'a', 1);
        isBlocked(says, one, 'a');
        Desk three = Desk.after(795, "klgjhllllljjjjjjhgjghhhhhh>lllll");
        isBlocked(says, three, 'd');
        says.bag(three, 2, 1, 2);
    }

    private static void theLastThingOfFour() {
        Sentence says = check.says("97 a to 100 d: THING 0 to 3 of the BAG is used, and gone");
        Desk desk = Desk.after(795, "klgjhllllljjjjjjhgjghhhhhh>lllllg");
        says.bag(desk, 2, 1, 2, 3);
        says.key(desk, 100, 1);
        says.bag(desk, 2, 1, 2);
        says.player(desk, 5, 5);
    }

    private static void thoseBehindMoveUp() {
        Sentence says = check.says("(those behind it move up)");
        Desk first = Desk.after(1398, "ghgklgjlllljlljjjjjhhhhhh>lgjll");
        says.bag(first, 0, 1, 2, 0);
        says.key(first, 97, 1);
        says.bag(first, 1, 2, 0);
        Desk second = Desk.after(3797, "llllglllllljjjhgjghhhh>ljgkl");
        says.bag(second, 0, 2, 2, 3);
        says.key(second, 98, 1);
        says.bag(second, 0, 2, 3);
        Desk third = Desk.after(1351, "ljgklllllllljjjjjhjhghhhhhhkhhgh>g");
        says.bag(third, 2, 0, 1, 0);
        says.key(third, 99, 1);
        says.bag(third, 2, 0, 0);
        says.player(third, 3, 2);
    }

    private static void healthBecomes(Sentence says, Desk desk, int before, int behind) {
        says.player(desk, 2, before);
        says.player(desk, 10, 0);
        says.key(desk, 'a', 1);
        says.player(desk, 2, behind);
        says.bag(desk);
    }

    private static void healthIsFiveMore() {
        Sentence says = check.says("KIND 0 HEALTH is 5 more");
        healthBecomes(says, Desk.after(1830, "lllllllljgj"), 1, 6);
        healthBecomes(says, Desk.after(3583, "lllclgll"), 4, 9);
        healthBecomes(says, Desk.after(2058, "glllllllll"), 5, 10);
    }

    private static void healthIsTenAtMost() {
        Sentence says = check.says("but 10 at most");
        healthBecomes(says, Desk.after(2977, "lllllgl"), 6, 10);
        healthBecomes(says, Desk.after(33, "g"), 10, 10);
    }

    private static void hitIsOneMore() {
        Sentence says = check.says("1 HIT is 1 more");
        Desk desk = Desk.after(1006, "gahgl");
        says.player(desk, 3, 2);
        desk.key('a');
        says.player(desk, 3, 3);
    }

    private static void jumpToTheFirstCell() {
        Sentence says = check.says("FLOOR CELL number DRAW(n) of PLAY (0 the first one)");
        Desk desk = Desk.after(1391, "kg");
        says.count(desk, 6, 42);
        says.count(desk, 3, 3);
        says.holds("0 is drawn", Sums.answer(Sums.drawn(1391), 39) == 0);
        desk.key('a');
        says.playerAt(desk, 1, 1);
    }

    /** Three monsters stand before it: they are not counted. */
    private static void jumpToTheLastCell() {
        Sentence says = check.says("of the n FLOOR CELLS without a MONSTER, ROW by ROW from the top");
        Desk desk = Desk.after(3368, "kg");
        int free = desk.count(6) - desk.count(3);
        says.holds("n - 1 is drawn", Sums.answer(Sums.drawn(3368), free) == free - 1);
        desk.key('a');
        says.playerAt(desk, 10, 8);
    }

    private static void jumpToTheOwnCell() {
        Sentence says = check.says("the n FLOOR CELLS without a MONSTER");
        Desk desk = Desk.after(2090, "g");
        says.playerAt(desk, 3, 2);
        says.key(desk, 'a', 1);
        says.playerAt(desk, 3, 2);
        says.count(desk, 0, 2);
    }

    private static void hasteIsSix() {
        Sentence says = check.says("3 HASTE is 6");
        Desk desk = Desk.after(4170, "gkga");
        says.player(desk, 5, 5);
        says.player(desk, 4, 20);
        says.key(desk, 'a', 1);
        says.player(desk, 5, 6);
        says.player(desk, 4, 10);
    }

    private static void noStairsHere() {
        Sentence says = check.says("BLOCKED if the STAIRS are not in the CELL");
        isBlocked(says, new Desk(1), '>');
        Desk below = Desk.after(399, "jgahgkakh>");
        isBlocked(says, below, '>');
        says.player(below, 6, 2);
    }

    private static void stairsOfLevelsOneAndTwo() {
        Sentence says = check.says("else the next LEVEL IS MADE");
        Desk desk = Desk.after(1729, "klllllllgalgjhakkkkkgj");
        says.player(desk, 6, 1);
        says.count(desk, 2, 1);
        says.key(desk, '>', 1);
        says.player(desk, 6, 2);
        says.playerAt(desk, 2, 2);
        says.player(desk, 2, 8);
        says.player(desk, 3, 2);
        says.bag(desk, 3);
        says.count(desk, 2, 1);
        says.count(desk, 3, 4);
        says.count(desk, 4, 0);
        says.hash(desk, Sums.hash(desk, 553604371143720923L));
        Desk last = Desk.after(3447, "lllljjjjhhhhhhhh>lllljjjjjjhhhhk");
        says.player(last, 6, 2);
        says.key(last, '>', 1);
        says.player(last, 6, 3);
        says.count(last, 9, 0);
    }

    private static void stairsOfLevelThree() {
        Sentence says = check.says("on LEVEL 3 the game is WON");
        String keys = Games.WINS.substring(0, Games.WINS.length() - 1);
        Desk desk = Desk.after(Games.WINNER, keys);
        says.player(desk, 6, 3);
        says.count(desk, 9, 0);
        long hash = desk.hash();
        says.key(desk, 62, 4);
        says.hash(desk, hash);
        says.player(desk, 6, 3);
        says.count(desk, 9, 2);
        says.count(desk, 0, 52);
    }

    private static void energyIsTenBelow() {
        Sentence says = check.says("the ENERGY of the PLAYER is 10, and no time passes");
        Desk desk = Desk.after(2960, "hgakghgaakl");
        says.player(desk, 4, 20);
        says.player(desk, 5, 4);
        says.count(desk, 0, 7);
        says.key(desk, '>', 1);
        says.player(desk, 4, 10);
        says.player(desk, 5, 4);
        says.count(desk, 0, 7);
        for (int i = 0; i < 4; i++) {
            says.monster(desk, i, 4, 0);
        }
    }

    private static void energyOfTenNeedsNoTick() {
        Sentence says = check.says("as long as it is below 10 and the PLAYER is not DEAD, a TICK");
        Desk desk = Desk.after(20, "ga");
        says.player(desk, 4, 20);
        says.count(desk, 0, 2);
        int energy = desk.monster(0, 4);
        says.key(desk, '.', 1);
        says.player(desk, 4, 10);
        says.count(desk, 0, 2);
        says.monster(desk, 0, 4, energy);
        says.key(desk, '.', 1);
        says.player(desk, 4, 20);
        says.count(desk, 0, 3);
    }

    private static void theLastTickOfHaste() {
        Sentence says = check.says("if HASTE is above 0, 20 more and HASTE 1 less");
        Desk desk = Desk.after(20, "ga.........");
        says.player(desk, 5, 1);
        says.player(desk, 4, 10);
        desk.key('.');
        says.player(desk, 5, 0);
        says.player(desk, 4, 20);
        desk.key('.');
        says.player(desk, 5, 0);
        says.player(desk, 4, 10);
        desk.key('.');
        says.player(desk, 5, 0);
        says.player(desk, 4, 10);
    }

    private static void takesATick(Sentence says, Desk desk, int c, int answer) {
        int ticks = desk.count(0);
        says.player(desk, 4, 10);
        says.key(desk, c, answer);
        says.count(desk, 0, ticks + 1);
    }

    private static void keysTakeTime() {
        Sentence says = check.says("All KEYS but > take time");
        Desk steps = new Desk(1);
        for (char c : "kljh.".toCharArray()) {
            takesATick(says, steps, c, 1);
        }
        takesATick(says, new Desk(87), 'g', 1);
        takesATick(says, Desk.after(87, "g"), 'a', 1);
        takesATick(says, Desk.after(3797, "llllglllllljjjhgjghhhh>ljgkl"), 'b', 1);
        takesATick(says, Desk.after(1351, "ljgklllllllljjjjjhjhghhhhhhkhhgh>g"), 'c', 1);
        takesATick(says, Desk.after(795, "klgjhllllljjjjjjhgjghhhhhh>lllllg"), 'd', 1);
        takesATick(says, Desk.after(726, "ll"), 'l', 1);
        takesATick(says, Desk.after(726, "lll"), 'l', 2);
        Desk down = Desk.after(3304, "gllllla");
        int ticks = down.count(0);
        says.key(down, '>', 1);
        says.count(down, 0, ticks);
    }

    private static void blockedKeysTakeNone() {
        Sentence says = check.says("unless they are BLOCKED");
        Desk desk = Desk.after(1, "hk");
        for (char c : "khgabcd>".toCharArray()) {
            isBlocked(says, desk, c);
        }
        says.count(desk, 0, 2);
    }

    private static void blockedKeysAreRecorded() {
        Sentence says = check.says("A KEY that is one of these is RECORDED, BLOCKED or not");
        Desk desk = Desk.after(1, "hk");
        String blocked = "khgabcd>";
        for (int k = 0; k < blocked.length(); k++) {
            says.key(desk, blocked.charAt(k), 0);
            says.count(desk, 1, 3 + k);
            says.recorded(desk, 2 + k, blocked.charAt(k));
        }
    }

    private static void otherNumbersAreNotRecorded() {
        Sentence says = check.says("A KEY that is one of these is RECORDED");
        Desk desk = Desk.after(1, "l");
        for (int c : new int[] {0, 45, 47, 61, 63, 96, 101, 102, 105, 109, -1}) {
            says.key(desk, c, DungeonDesk.REFUSED);
            says.count(desk, 1, 1);
            says.recorded(desk, 1, DungeonDesk.NONE);
        }
    }

    private static void nothingIsRecordedBehindDeath() {
        Sentence says = check.says("as long as the game is not DEAD or WON");
        Desk desk = Games.dead();
        int keys = Games.DIES.length();
        says.recorded(desk, keys - 1, Games.DIES.charAt(keys - 1));
        says.key(desk, '.', DungeonDesk.REFUSED);
        says.key(desk, '>', DungeonDesk.REFUSED);
        says.count(desk, 1, keys);
        says.recorded(desk, keys, DungeonDesk.NONE);
    }

    private static void nothingIsRecordedBehindVictory() {
        Sentence says = check.says("as long as the game is not DEAD or WON");
        Desk desk = Games.won();
        int keys = Games.WINS.length();
        says.recorded(desk, keys - 1, '>');
        says.key(desk, '>', DungeonDesk.REFUSED);
        says.key(desk, 'k', DungeonDesk.REFUSED);
        says.count(desk, 1, keys);
        says.recorded(desk, keys, DungeonDesk.NONE);
    }
}
