/** The edges in the promises 1 to 9, in their order. */
public final class EdgesOfPromisesTest {
    private static final Check check = new Check();
    private static final int LEAST = Integer.MIN_VALUE;
    private static final int GREATEST = Integer.MAX_VALUE;

    public static void main(String[] args) {
        anyIntIsASeed();
        playIsTheSeedAsLong();
        nothingIsRecordedYet();
        keyAnswersZero();
        keyAnswersOne();
        keyAnswersTwo();
        keyAnswersThree();
        keyAnswersThreeThoughAMonsterWent();
        keyAnswersFour();
        keyRefusesOtherNumbers();
        keyRefusesTheDead();
        keyRefusesTheWon();
        rewindToNone();
        rewindToAll();
        rewindOverBlockedKeys();
        rewindForgetsTheOthers();
        rewindOverLevels();
        rewindRefusesBelowZero();
        rewindRefusesAboveTheRecord();
        rewindRefusesOverGames();
        cellTellsTheGround();
        cellTellsWhoIsThere();
        cellTellsTheThing();
        cellRefusesColumns();
        cellRefusesRows();
        cellRefusesWhat();
        monsterRefusesWhat();
        monsterIsNone();
        monsterIsGone();
        playerIsDead();
        playerHasNoThing();
        playerRefuses();
        recordedIsNone();
        recordedIsNoneBehindARewind();
        hashWraps();
        hashOfEmptyParts();
        hashOfAFullBag();
        countsBeginAtZero();
        countsOfEmptyLevels();
        countsOfCells();
        countTellsTheEnd();
        countOfTheGreatestDistance();
        countRefuses();
        fiveHundredAndTwelveCalls();
        check.end();
    }

    private static void anyIntIsASeed() {
        Sentence says = check.says("LEVEL 1 IS MADE with this seed (any int)");
        for (int seed : new int[] {LEAST, LEAST + 1, -1, 0, 1, GREATEST - 1, GREATEST}) {
            Desk desk = new Desk(seed);
            says.player(desk, 6, 1);
            says.player(desk, 2, 10);
            says.player(desk, 3, 1);
            says.player(desk, 4, 10);
            says.player(desk, 5, 0);
            says.bag(desk);
            says.cell(desk, desk.player(0), desk.player(1), 3, 1);
            says.key(desk, '.', 1);
        }
        says.hash(new Desk(GREATEST), 6406563456849212162L);
        says.hash(new Desk(LEAST), 6924570596089842091L);
    }

    private static void playIsTheSeedAsLong() {
        Sentence says = check.says("PLAY is the seed as long");
        for (int seed : new int[] {LEAST, -1, 0, 1, GREATEST}) {
            Desk desk = new Desk(seed);
            says.hash(desk, Sums.hash(desk, seed));
        }
    }

    private static void nothingIsRecordedYet() {
        Sentence says = check.says("nothing is RECORDED");
        Desk desk = new Desk(1);
        says.count(desk, 1, 0);
        says.recorded(desk, 0, DungeonDesk.NONE);
        says.rewind(desk, 1, DungeonDesk.REFUSED);
        says.rewind(desk, 0, 0);
    }

    private static void keyAnswersZero() {
        Sentence says = check.says("0 if it was BLOCKED");
        Desk desk = Desk.after(1, "hk");
        for (char c : "khgabcd>".toCharArray()) {
            says.key(desk, c, 0);
        }
    }

    private static void keyAnswersOne() {
        Sentence says = check.says("1 if it was done");
        Desk desk = new Desk(87);
        for (char c : "kjhl.ga".toCharArray()) {
            says.key(desk, c, 1);
        }
        says.key(Desk.after(726, "ll"), 'l', 1);
        says.key(Desk.after(3304, "gllllla"), '>', 1);
    }

    private static void keyAnswersTwo() {
        Sentence says = check.says("2 if a MONSTER went by it");
        Desk desk = Desk.after(726, "lll");
        says.key(desk, 'l', 2);
        says.key(desk, 'h', 1);
    }

    private static void keyAnswersThree() {
        Sentence says = check.says("3 if the PLAYER is DEAD behind it");
        says.key(Desk.after(221, "llllll"), 'l', 3);
        says.key(Desk.after(2471, "llllll"), '.', 3);
    }

    private static void keyAnswersThreeThoughAMonsterWent() {
        Sentence says = check.says("3 if the PLAYER is DEAD behind it");
        Desk desk = Desk.after(1246, "llllkkkkk");
        says.count(desk, 2, 0);
        says.key(desk, 'k', 3);
        says.count(desk, 2, 1);
        says.count(desk, 9, 1);
    }

    private static void keyAnswersFour() {
        Sentence says = check.says("4 if the game is WON");
        says.key(Desk.after(Games.WINNER, Games.WINS.substring(0, Games.WINS.length() - 1)), '>', 4);
    }

    private static void keyRefusesOtherNumbers() {
        Sentence says = check.says("REFUSED, changing nothing, for another number");
        Desk desk = Desk.after(222, "lll");
        says.changesNothing(desk, () -> {
            for (int key : new int[] {46, 62, 97, 98, 99, 100, 103, 104, 106, 107, 108}) {
                for (int c : new int[] {-key, key + 128, key + 256, key + 65536, key + (1 << 30), key + LEAST}) {
                    says.key(desk, c, DungeonDesk.REFUSED);
                }
            }
            for (int c = -130; c <= 130; c++) {
                if ("kljh.gabcd>".indexOf(c) < 0) {
                    says.key(desk, c, DungeonDesk.REFUSED);
                }
            }
            says.key(desk, LEAST, DungeonDesk.REFUSED);
            says.key(desk, GREATEST, DungeonDesk.REFUSED);
        });
    }

    private static void keyRefusesTheDead() {
        Sentence says = check.says("or if the game is DEAD");
        refusesEveryKey(says, Games.dead());
        refusesEveryKey(says, Desk.after(3893, "kgaljgjlgl"));
    }

    private static void keyRefusesTheWon() {
        Sentence says = check.says("or if the game is DEAD or WON");
        refusesEveryKey(says, Games.won());
    }

    private static void refusesEveryKey(Sentence says, Desk desk) {
        says.holds("the game is over", desk.count(9) != 0);
        says.changesNothing(desk, () -> {
            for (char c : "kljh.gabcd>".toCharArray()) {
                says.key(desk, c, DungeonDesk.REFUSED);
            }
            says.key(desk, 0, DungeonDesk.REFUSED);
        });
    }

    private static void rewindToNone() {
        Sentence says = check.says("The game begins anew with the same seed, and the first n KEYS");
        Desk desk = Desk.after(222, "lllllll");
        says.rewind(desk, 0, 0);
        says.count(desk, 1, 0);
        says.holds("as a new one", Picture.whole(desk).equals(Picture.whole(new Desk(222))));
        says.rewind(desk, 0, 0);
        says.holds("once more", Picture.whole(desk).equals(Picture.whole(new Desk(222))));
    }

    private static void rewindToAll() {
        Sentence says = check.says("the first n KEYS that are RECORDED are done again");
        for (Desk desk : new Desk[] {Desk.after(222, "lllllll"), Games.dead(), Games.won()}) {
            says.changesNothing(desk, () -> says.rewind(desk, desk.count(1), desk.count(0)));
        }
    }

    private static void rewindOverBlockedKeys() {
        Sentence says = check.says("Answers how many TICKS there were then");
        Desk blocked = Desk.after(1, "hkkhg.>");
        says.rewind(blocked, 7, 3);
        says.rewind(blocked, 5, 2);
        says.rewind(blocked, 2, 2);
        says.rewind(blocked, 1, 1);
        Desk hasty = Desk.after(20, "ga....");
        says.rewind(hasty, 6, 4);
        says.rewind(hasty, 3, 2);
        says.rewind(hasty, 2, 2);
    }

    private static void rewindForgetsTheOthers() {
        Sentence says = check.says("the others are RECORDED no more");
        Desk desk = Desk.after(222, "llllll");
        says.rewind(desk, 2, 2);
        says.count(desk, 1, 2);
        says.recorded(desk, 1, 'l');
        for (int k = 2; k < 6; k++) {
            says.recorded(desk, k, DungeonDesk.NONE);
        }
        says.rewind(desk, 3, DungeonDesk.REFUSED);
        says.key(desk, 'h', 1);
        says.recorded(desk, 2, 'h');
        says.recorded(desk, 3, DungeonDesk.NONE);
    }

    private static void rewindOverLevels() {
        Sentence says = check.says("The game begins anew with the same seed");
        Desk desk = Games.won();
        says.rewind(desk, 39, Desk.after(Games.WINNER, Games.WINS.substring(0, 39)).count(0));
        says.count(desk, 9, 0);
        says.holds("as if it had gone no further",
            Picture.whole(desk).equals(Picture.whole(Desk.after(Games.WINNER, Games.WINS.substring(0, 39)))));
        says.player(desk, 6, 3);
        says.rewind(desk, 29, Desk.after(Games.WINNER, Games.WINS.substring(0, 29)).count(0));
        says.player(desk, 6, 2);
        says.rewind(desk, 28, Desk.after(Games.WINNER, Games.WINS.substring(0, 28)).count(0));
        says.player(desk, 6, 1);
        Desk dead = Games.dead();
        says.rewind(dead, Games.DIES.length() - 1, 9);
        says.count(dead, 9, 0);
        says.player(dead, 2, 1);
        says.key(dead, Games.DIES.charAt(Games.DIES.length() - 1), 3);
    }

    private static void rewindRefusesBelowZero() {
        Sentence says = check.says("REFUSED, changing nothing, if n is below 0");
        Desk desk = Desk.after(222, "llllll");
        says.changesNothing(desk, () -> {
            says.rewind(desk, -1, DungeonDesk.REFUSED);
            says.rewind(desk, -6, DungeonDesk.REFUSED);
            says.rewind(desk, LEAST, DungeonDesk.REFUSED);
        });
        says.rewind(new Desk(1), -1, DungeonDesk.REFUSED);
    }

    private static void rewindRefusesAboveTheRecord() {
        Sentence says = check.says("or above the number of RECORDED KEYS");
        Desk desk = Desk.after(222, "llllll");
        says.changesNothing(desk, () -> {
            says.rewind(desk, 7, DungeonDesk.REFUSED);
            says.rewind(desk, 512, DungeonDesk.REFUSED);
            says.rewind(desk, 513, DungeonDesk.REFUSED);
            says.rewind(desk, GREATEST, DungeonDesk.REFUSED);
        });
        says.rewind(desk, 6, 6);
        says.rewind(new Desk(1), 1, DungeonDesk.REFUSED);
    }

    private static void rewindRefusesOverGames() {
        Sentence says = check.says("REFUSED, changing nothing, if n is below 0 or above the number");
        for (Desk desk : new Desk[] {Games.dead(), Games.won()}) {
            says.changesNothing(desk, () -> {
                says.rewind(desk, -1, DungeonDesk.REFUSED);
                says.rewind(desk, desk.count(1) + 1, DungeonDesk.REFUSED);
            });
        }
    }

    private static void cellTellsTheGround() {
        Sentence says = check.says("0: 0 a WALL, 1 FLOOR, 2 the STAIRS");
        Desk desk = new Desk(726);
        says.cell(desk, 0, 0, 0, 0);
        says.cell(desk, 4, 2, 0, 1);
        says.cell(desk, 7, 7, 0, 1);
        says.cell(desk, 2, 8, 0, 2);
        says.cell(new Desk(13), 3, 6, 0, 2);
    }

    private static void cellTellsWhoIsThere() {
        Sentence says = check.says("3: 0 nobody, 1 the PLAYER, 2 + KIND a MONSTER");
        Desk desk = new Desk(726);
        says.cell(desk, 0, 0, 3, 0);
        says.cell(desk, 3, 2, 3, 0);
        says.cell(desk, 4, 2, 3, 1);
        says.cell(desk, 7, 7, 3, 2);
        says.cell(desk, 8, 7, 3, 3);
        says.cell(desk, 7, 2, 3, 4);
        desk.keys("llll");
        says.cell(desk, 7, 2, 3, 0);
        says.cell(Games.dead(), 7, 3, 3, 1);
    }

    private static void cellTellsTheThing() {
        Sentence says = check.says("4: 0 no THING, 1 + KIND a THING");
        says.cell(new Desk(726), 4, 2, 4, 0);
        says.cell(new Desk(726), 9, 6, 4, 1);
        says.cell(new Desk(726), 7, 6, 4, 2);
        says.cell(new Desk(13), 3, 7, 4, 3);
        says.cell(new Desk(20), 2, 2, 4, 4);
        says.cell(Desk.after(20, "g"), 2, 2, 4, 0);
    }

    private static void cellRefusesColumns() {
        Sentence says = check.says("REFUSED if a number is not as said");
        Desk desk = new Desk(1);
        for (int what = -1; what <= 6; what++) {
            for (int x : new int[] {LEAST, -1, 12, 13, 120, GREATEST}) {
                says.cell(desk, x, 2, what, DungeonDesk.REFUSED);
            }
        }
    }

    private static void cellRefusesRows() {
        Sentence says = check.says("REFUSED if a number is not as said");
        Desk desk = new Desk(1);
        for (int what = -1; what <= 6; what++) {
            for (int y : new int[] {LEAST, -1, 10, 11, 12, GREATEST}) {
                says.cell(desk, 2, y, what, DungeonDesk.REFUSED);
            }
        }
    }

    private static void cellRefusesWhat() {
        Sentence says = check.says("REFUSED if a number is not as said");
        Desk desk = new Desk(1);
        for (int what : new int[] {LEAST, -2, -1, 6, 7, GREATEST}) {
            says.cell(desk, 2, 2, what, DungeonDesk.REFUSED);
            says.cell(desk, 0, 0, what, DungeonDesk.REFUSED);
        }
        says.cell(desk, 2, 2, 0, 1);
        says.cell(desk, 2, 2, 5, 0);
    }

    private static void monsterRefusesWhat() {
        Sentence says = check.says("REFUSED for another what");
        Desk desk = Desk.after(726, "llll");
        for (int what : new int[] {LEAST, -2, -1, 6, 7, GREATEST}) {
            for (int i : new int[] {-1, 0, 2, 3, GREATEST}) {
                says.monster(desk, i, what, DungeonDesk.REFUSED);
            }
        }
        says.monster(desk, 0, 0, 1);
        says.monster(desk, 0, 5, 0);
    }

    private static void monsterIsNone() {
        Sentence says = check.says("NONE if there is none");
        Desk desk = new Desk(726);
        for (int what = 0; what <= 5; what++) {
            for (int i : new int[] {LEAST, -1, 3, 4, 5, GREATEST}) {
                says.monster(desk, i, what, DungeonDesk.NONE);
            }
        }
        says.monster(desk, 2, 0, 2);
    }

    private static void monsterIsGone() {
        Sentence says = check.says("NONE if there is none, or it is gone");
        Desk desk = Desk.after(1106, "llllklll");
        for (int what = 0; what <= 5; what++) {
            says.monster(desk, 0, what, DungeonDesk.NONE);
        }
        says.monster(desk, 1, 0, 1);
        says.count(desk, 3, 2);
    }

    private static void playerIsDead() {
        Sentence says = check.says("2: HEALTH (0 if DEAD)");
        says.player(Games.dead(), 2, 0);
        says.player(Desk.after(221, "lllllll"), 2, 0);
        says.player(Desk.after(2814, "lllllll"), 2, 1);
    }

    private static void playerHasNoThing() {
        Sentence says = check.says("the KIND of THING k (0 to 3; NONE if there is none)");
        says.bag(new Desk(1));
        says.bag(Desk.after(87, "g"), 0);
        says.bag(Desk.after(87, "ga"));
        says.bag(Desk.after(795, "klgjhllllljjjjjjhgjghhhhhh>lllllg"), 2, 1, 2, 3);
    }

    private static void playerRefuses() {
        Sentence says = check.says("REFUSED for others");
        for (Desk desk : new Desk[] {new Desk(1), Games.dead(), Games.won()}) {
            for (int what : new int[] {LEAST, -2, -1, 8, 9, 14, 15, GREATEST}) {
                says.player(desk, what, DungeonDesk.REFUSED);
            }
        }
    }

    private static void recordedIsNone() {
        Sentence says = check.says("The k-th KEY that is RECORDED (0 the first), NONE if there is none");
        Desk desk = Desk.after(222, "l.h");
        says.recorded(desk, 0, 'l');
        says.recorded(desk, 1, '.');
        says.recorded(desk, 2, 'h');
        for (int k : new int[] {LEAST, -2, -1, 3, 4, 511, 512, 513, GREATEST}) {
            says.recorded(desk, k, DungeonDesk.NONE);
        }
        for (int k : new int[] {-1, 0, 1}) {
            says.recorded(new Desk(222), k, DungeonDesk.NONE);
        }
    }

    private static void recordedIsNoneBehindARewind() {
        Sentence says = check.says("NONE if there is none");
        Desk desk = Desk.after(222, "l.h");
        desk.rewind(1);
        says.recorded(desk, 0, 'l');
        says.recorded(desk, 1, DungeonDesk.NONE);
        desk.rewind(0);
        says.recorded(desk, 0, DungeonDesk.NONE);
    }

    private static void hashWraps() {
        Sentence says = check.says("h times 1000003 and it (wrapping)");
        Desk desk = new Desk(1);
        says.hash(desk, 8441662145234332200L);
        says.hash(desk, Sums.hash(desk, 1));
        Desk below = Desk.after(10, "lll");
        says.hash(below, Sums.hash(below, 10));
    }

    private static void hashOfEmptyParts() {
        Sentence says = check.says("for each MONSTER that is not gone");
        Desk none = Desk.after(2058, "glllllllllalglg");
        says.count(none, 3, 0);
        says.count(none, 5, 0);
        says.hash(none, Sums.hash(none, 2058));
        Desk one = Desk.after(1106, "llllklll");
        says.hash(one, Sums.hash(one, 1106));
        Desk things = Desk.after(190, "gakhga");
        says.count(things, 5, 0);
        says.hash(things, Sums.hash(things, 190));
    }

    private static void hashOfAFullBag() {
        Sentence says = check.says("how many THINGS are in the BAG, their KINDS");
        Desk desk = Desk.after(1351, "ljgklllllllljjjjjhjhghhhhhhkhhgh>g");
        says.bag(desk, 2, 0, 1, 0);
        says.hash(desk, Sums.hash(desk, 1351));
    }

    private static void countsBeginAtZero() {
        Sentence says = check.says("TICKS since the beginning, 1: RECORDED KEYS, 2: MONSTERS that went by the PLAYER");
        Desk desk = new Desk(1);
        for (int what : new int[] {0, 1, 2, 4, 9}) {
            says.count(desk, what, 0);
        }
        Desk back = Games.won();
        back.rewind(0);
        for (int what : new int[] {0, 1, 2, 4, 9}) {
            says.count(back, what, 0);
        }
    }

    private static void countsOfEmptyLevels() {
        Sentence says = check.says("3: MONSTERS on this LEVEL, 4: awake ones of these, 5: THINGS on this LEVEL");
        Desk desk = Desk.after(2058, "glllllllllalglg");
        says.count(desk, 2, 2);
        says.count(desk, 3, 0);
        says.count(desk, 4, 0);
        says.count(desk, 5, 0);
        Desk last = Desk.after(1882, "llllblk");
        says.count(last, 2, 1);
        says.count(last, 3, 0);
        says.count(last, 4, 0);
        says.count(last, 5, 3);
    }

    /** The stairs are floor, what is seen of walls is not counted, what is known of them is. */
    private static void countsOfCells() {
        Sentence says = check.says("6: FLOOR CELLS, 7: those SEEN, 8: CELLS KNOWN");
        Desk desk = new Desk(20);
        says.count(desk, 6, 32);
        says.count(desk, 7, 9);
        says.count(desk, 8, 20);
    }

    private static void countTellsTheEnd() {
        Sentence says = check.says("9: 1 if DEAD, 2 if WON, else 0");
        says.count(new Desk(1), 9, 0);
        says.count(Desk.after(2814, "lllllll"), 9, 0);
        says.count(Desk.after(221, "lllllll"), 9, 1);
        says.count(Games.dead(), 9, 1);
        says.count(Games.won(), 9, 2);
    }

    private static void countOfTheGreatestDistance() {
        Sentence says = check.says("10: the greatest DISTANCE");
        Desk desk = new Desk(1);
        says.count(desk, 10, 21);
        Desk corridor = Desk.after(222, "lllllll");
        says.count(corridor, 10, 15);
        says.cell(corridor, 1, 8, 5, 15);
    }

    private static void countRefuses() {
        Sentence says = check.says("REFUSED for others");
        for (Desk desk : new Desk[] {new Desk(1), Games.dead(), Games.won()}) {
            for (int what : new int[] {LEAST, -2, -1, 11, 12, GREATEST}) {
                says.count(desk, what, DungeonDesk.REFUSED);
            }
        }
    }

    /** Without Desk, which makes a new object behind 512 calls: one object has to bear them all. */
    private static void fiveHundredAndTwelveCalls() {
        Sentence says = check.says("An object is used for at most 512 calls after it has been made");
        DungeonDesk keys = new DungeonDesk(1);
        for (int k = 0; k < 512; k++) {
            says.holds("key " + k + " of 512", keys.key(k % 2 == 0 ? 'k' : 'j') == 1);
        }
        DungeonDesk asked = pressed(511);
        says.holds("the last of 511 keys", asked.recorded(510) == 'k');
        DungeonDesk none = pressed(511);
        says.holds("behind 511 keys there is none", none.recorded(511) == DungeonDesk.NONE);
        DungeonDesk counted = pressed(511);
        says.holds("511 keys", counted.count(1) == 511);
        DungeonDesk back = pressed(511);
        says.holds("rewind to 511 keys", back.rewind(511) == 511);
        DungeonDesk beyond = pressed(511);
        says.holds("rewind to 512 keys", beyond.rewind(512) == DungeonDesk.REFUSED);
        DungeonDesk blocked = new DungeonDesk(1);
        for (int k = 0; k < 511; k++) {
            says.holds("blocked key " + k, blocked.key('a') == 0);
        }
        says.holds("no ticks", blocked.rewind(511) == 0);
    }

    private static DungeonDesk pressed(int keys) {
        DungeonDesk desk = new DungeonDesk(1);
        for (int k = 0; k < keys; k++) {
            desk.key(k % 2 == 0 ? 'k' : 'j');
        }
        return desk;
    }
}
