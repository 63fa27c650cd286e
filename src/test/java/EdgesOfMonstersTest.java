/** The edges in the terms: when monsters wake, come, flee, flutter and hit. */
public final class EdgesOfMonstersTest {
    private static final Check check = new Check();

    public static void main(String[] args) {
        wakesFourAway();
        sleepsFiveAway();
        sleepsBehindWalls();
        wakingIsAll();
        actsWithTenEnergy();
        ratTakesTheFirstOfTheLeast();
        ratStaysWithoutALesserNeighbour();
        ratWithoutAnyNeighbour();
        ratHits();
        orcComesToo();
        orcWithThreeFights();
        orcWithTwoFlees();
        orcWithoutAWayDoesNothing();
        batHits();
        batFliesAnyWay();
        batAtAWall();
        batAtAMonster();
        batActsTwice();
        healthOneLives();
        healthZeroIsDeath();
        healthBelowZeroIsDeath();
        othersDoNotActBehindDeath();
        theKillerStops();
        check.end();
    }

    private static void wakesFourAway() {
        Sentence says = check.says("it is awake if it is at most 4 COLUMNS and ROWS from the PLAYER");
        Desk columns = Desk.after(1403, "l");
        says.playerAt(columns, 4, 2);
        says.monsterAt(columns, 0, 8, 1);
        says.monster(columns, 0, 5, 1);
        Desk rows = Desk.after(3850, "ll");
        says.playerAt(rows, 6, 2);
        says.monsterAt(rows, 0, 9, 6);
        says.monster(rows, 0, 5, 1);
        says.monsterAt(rows, 2, 10, 3);
        says.monster(rows, 2, 5, 1);
    }

    /** Both of them acted, and their lines are clear. */
    private static void sleepsFiveAway() {
        Sentence says = check.says("at most 4 COLUMNS and ROWS from the PLAYER");
        Desk columns = Desk.after(19, "l");
        says.playerAt(columns, 4, 3);
        says.monsterAt(columns, 1, 9, 3);
        says.monster(columns, 1, 4, 4);
        says.monster(columns, 1, 5, 0);
        Desk rows = Desk.after(1125, "lll");
        says.playerAt(rows, 7, 2);
        says.monsterAt(rows, 2, 9, 7);
        says.monster(rows, 2, 4, 2);
        says.monster(rows, 2, 5, 0);
    }

    private static void sleepsBehindWalls() {
        Sentence says = check.says("and the LINE from it to the PLAYER is CLEAR");
        Desk desk = Desk.after(1415, "l");
        says.playerAt(desk, 4, 2);
        says.monsterAt(desk, 1, 4, 6);
        says.monster(desk, 1, 4, 4);
        says.monster(desk, 1, 5, 0);
        Desk aside = Desk.after(3850, "ll");
        says.monsterAt(aside, 1, 7, 6);
        says.monster(aside, 1, 4, 6);
        says.monster(aside, 1, 5, 0);
    }

    private static void wakingIsAll() {
        Sentence says = check.says("that is all");
        Desk bat = Desk.after(1403, "l");
        says.monster(bat, 0, 5, 1);
        says.monsterAt(bat, 0, 8, 1);
        says.hash(bat, Sums.hash(bat, 1403));
        Desk orc = Desk.after(222, "ll");
        says.monster(orc, 1, 5, 1);
        says.monsterAt(orc, 1, 7, 2);
        says.monster(orc, 1, 4, 2);
    }

    private static void actsWithTenEnergy() {
        Sentence says = check.says("gets its SPEED more ENERGY, and as long as it has 10");
        Desk desk = new Desk(726);
        int[] rat = {8, 6, 4, 2, 0, 8};
        int[] orc = {6, 2, 8, 4, 0, 6};
        int[] bat = {4, 8, 2, 6, 0, 4};
        for (int k = 0; k < rat.length; k++) {
            desk.key('.');
            says.monster(desk, 0, 4, orc[k]);
            says.monster(desk, 1, 4, rat[k]);
            says.monster(desk, 2, 4, bat[k]);
        }
    }

    /** Down and left are both 3 away. */
    private static void ratTakesTheFirstOfTheLeast() {
        Sentence says = check.says("takes the first one of those with the least DISTANCE");
        Desk desk = Desk.after(0, "lll");
        says.cell(desk, 7, 2, 5, 3);
        says.cell(desk, 8, 3, 5, 3);
        says.monsterAt(desk, 0, 8, 3);
    }

    private static void ratStaysWithoutALesserNeighbour() {
        Sentence says = check.says("if that is less than its own DISTANCE it goes there");
        Desk desk = Desk.after(2213, "ll");
        says.monsterAt(desk, 2, 8, 2);
        says.cell(desk, 7, 2, 3, 2 + 1);
        says.cell(desk, 8, 1, 3, 0);
        says.monster(desk, 2, 4, 6);
        desk.key('l');
        says.monster(desk, 2, 4, 4);
        says.monsterAt(desk, 2, 8, 2);
    }

    private static void ratHits() {
        Sentence says = check.says("or, if the PLAYER is there, HITS");
        Desk desk = Desk.after(10, "ll");
        says.player(desk, 2, 10);
        desk.key('l');
        says.player(desk, 2, 9);
        says.cell(desk, desk.player(0), desk.player(1), 3, 1);
    }

    /** Down and left are both 2 away. */
    private static void orcComesToo() {
        Sentence says = check.says("An ORC does so, too");
        Desk desk = Desk.after(1408, "llll");
        says.cell(desk, 7, 1, 5, 2);
        says.cell(desk, 8, 2, 5, 2);
        says.monsterAt(desk, 2, 8, 2);
        Desk stays = Desk.after(222, "lllllll");
        says.monsterAt(stays, 0, 8, 2);
        says.monster(stays, 0, 4, 2);
    }

    private static void orcWithThreeFights() {
        Sentence says = check.says("but with HEALTH 2 or less");
        Desk desk = Desk.after(3153, "llll");
        says.player(desk, 2, 8);
        desk.key('l');
        says.monster(desk, 0, 3, 3);
        says.monsterAt(desk, 0, 7, 2);
        says.player(desk, 2, 6);
    }

    private static void orcWithTwoFlees() {
        Sentence says = check.says("with HEALTH 2 or less it takes the first one of those with the greatest DISTANCE");
        Desk two = Desk.after(222, "llllll");
        says.monster(two, 1, 3, 3);
        says.player(two, 2, 6);
        two.key('l');
        says.monster(two, 1, 3, 2);
        says.cell(two, 7, 1, 5, 2);
        says.cell(two, 7, 3, 5, 2);
        says.monsterAt(two, 1, 7, 1);
        says.player(two, 2, 6);
        Desk one = Desk.after(3153, "lllllll");
        says.monster(one, 0, 3, 1);
        says.monsterAt(one, 0, 8, 2);
        says.player(one, 2, 6);
    }

    private static void orcWithoutAWayDoesNothing() {
        Sentence says = check.says("and goes there if that is greater than its own (else it does nothing)");
        Desk beside = Desk.after(1640, "lllkkk");
        says.monster(beside, 0, 4, 6);
        beside.key('k');
        says.monster(beside, 0, 3, 2);
        says.monster(beside, 0, 4, 2);
        says.monsterAt(beside, 0, 7, 1);
        says.player(beside, 2, 6);
        Desk corner = Desk.after(281, "llllllll");
        says.monster(corner, 1, 3, 2);
        says.monster(corner, 1, 4, 8);
        corner.key('l');
        says.monster(corner, 1, 4, 4);
        says.monsterAt(corner, 1, 8, 2);
        says.cell(corner, 8, 2, 5, 2);
        says.player(corner, 2, 6);
    }

    /** An orc below it and a rat to the left, walls above and to the right. */
    private static void ratWithoutAnyNeighbour() {
        Sentence says = check.says("looks at the NEIGHBOURS that are FLOOR without a MONSTER");
        Desk desk = Desk.after(8607, "ll");
        says.monsterAt(desk, 2, 9, 1);
        says.monster(desk, 2, 5, 1);
        says.monster(desk, 2, 4, 6);
        desk.key('l');
        says.monster(desk, 2, 4, 4);
        says.monsterAt(desk, 0, 8, 1);
        says.monsterAt(desk, 1, 9, 2);
        says.monsterAt(desk, 2, 9, 1);
    }

    private static void batHits() {
        Sentence says = check.says("HITS if the PLAYER is there, goes there if it is FLOOR");
        Desk desk = Desk.after(3483, "ll");
        says.playerAt(desk, 6, 2);
        says.monsterAt(desk, 0, 7, 2);
        says.holds("the fourth neighbour is drawn", Sums.answer(Sums.drawn(3483), 4) == 3);
        says.player(desk, 2, 9);
        says.hash(desk, Sums.hash(desk, Sums.drawn(3483)));
    }

    private static void batFliesAnyWay() {
        Sentence says = check.says("NEIGHBOUR number DRAW(4) of PLAY (0 the first one)");
        Desk desk = Desk.after(11, "l");
        says.monsterAt(desk, 2, 7, 2);
        says.holds("the first neighbour is drawn", Sums.answer(Sums.drawn(11), 4) == 0);
        desk.key('l');
        says.monsterAt(desk, 2, 7, 1);
    }

    private static void batAtAWall() {
        Sentence says = check.says("goes there if it is FLOOR");
        Desk desk = Desk.after(1403, "ll");
        says.holds("the first neighbour is drawn", Sums.answer(Sums.drawn(1403), 4) == 0);
        says.cell(desk, 8, 0, 0, 0);
        says.monsterAt(desk, 0, 8, 1);
        says.monster(desk, 0, 4, 8);
        says.hash(desk, Sums.hash(desk, Sums.drawn(1403)));
    }

    private static void batAtAMonster() {
        Sentence says = check.says("goes there if it is FLOOR without a MONSTER");
        Desk desk = Desk.after(108, "ll");
        says.holds("the second neighbour is drawn", Sums.answer(Sums.drawn(108), 4) == 1);
        says.monsterAt(desk, 0, 10, 2);
        says.monsterAt(desk, 1, 9, 2);
        says.monster(desk, 1, 4, 8);
        says.hash(desk, Sums.hash(desk, Sums.drawn(108)));
    }

    /** Energy 8 and 14 more is 22. */
    private static void batActsTwice() {
        Sentence says = check.says("as long as it has 10 and the PLAYER is not DEAD, it has 10 less and ACTS");
        Desk desk = Desk.after(1403, "ll");
        desk.key('l');
        says.monster(desk, 0, 4, 2);
        says.hash(desk, Sums.hash(desk, Sums.drawn(Sums.drawn(Sums.drawn(1403)))));
    }

    private static void healthOneLives() {
        Sentence says = check.says("the HEALTH of the PLAYER is less by its HIT");
        Desk desk = Desk.after(2814, "llllll");
        says.player(desk, 2, 4);
        says.key(desk, 'l', 1);
        says.player(desk, 2, 1);
        says.count(desk, 9, 0);
    }

    private static void healthZeroIsDeath() {
        Sentence says = check.says("with 0 or less the PLAYER is DEAD");
        Desk desk = Desk.after(221, "llllll");
        says.player(desk, 2, 4);
        says.key(desk, 'l', 3);
        says.player(desk, 2, 0);
        says.count(desk, 9, 1);
    }

    private static void healthBelowZeroIsDeath() {
        Sentence says = check.says("with 0 or less the PLAYER is DEAD");
        Desk desk = Desk.after(2471, "lklllkkkl");
        says.player(desk, 2, 1);
        says.key(desk, 'l', 3);
        says.player(desk, 2, 0);
        says.count(desk, 9, 1);
    }

    /** The bat behind the orc that killed has energy for an act, but draws nothing. */
    private static void othersDoNotActBehindDeath() {
        Sentence says = check.says("as long as it has 10 and the PLAYER is not DEAD");
        Desk desk = Desk.after(1777, "llllll");
        says.monster(desk, 2, 4, 4);
        says.key(desk, 'l', 3);
        says.monster(desk, 2, 4, 18);
        says.monsterAt(desk, 2, 7, 6);
        says.hash(desk, Sums.hash(desk, 1483525723198311870L));
        Desk sleeper = Desk.after(3981, "lllllll");
        says.monster(sleeper, 1, 4, 6);
        says.monster(sleeper, 2, 4, 2);
        says.key(sleeper, 'l', 3);
        says.monster(sleeper, 1, 4, 14);
        says.monster(sleeper, 2, 4, 8);
    }

    private static void theKillerStops() {
        Sentence says = check.says("and the PLAYER is not DEAD, it has 10 less and ACTS");
        Desk desk = Desk.after(1927, "llljjjlll");
        says.player(desk, 2, 1);
        says.monster(desk, 0, 4, 6);
        says.key(desk, 'l', 3);
        says.monster(desk, 0, 4, 10);
        says.hash(desk, Sums.hash(desk, 790369503165277875L));
    }
}
