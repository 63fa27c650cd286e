/** One sentence of the document, and answers that are due because of it. */
final class Sentence {
    private final Check check;
    private final String words;

    Sentence(Check check, String words) {
        this.check = check;
        this.words = words;
    }

    private void due(Desk desk, String call, long got, long want) {
        check.due("\"" + words + "\": " + desk.told() + ": " + call, got, want);
    }

    void holds(String what, boolean is) {
        check.holds("\"" + words + "\": " + what, is);
    }

    void key(Desk desk, int c, int want) {
        String told = desk.told();
        check.due("\"" + words + "\": " + told + ": key(" + c + ")", desk.key(c), want);
    }

    void rewind(Desk desk, int n, int want) {
        String told = desk.told();
        check.due("\"" + words + "\": " + told + ": rewind(" + n + ")", desk.rewind(n), want);
    }

    void cell(Desk desk, int x, int y, int what, int want) {
        due(desk, "cell(" + x + ", " + y + ", " + what + ")", desk.cell(x, y, what), want);
    }

    /** All cells, as rows of characters. */
    void picture(Desk desk, int what, String... rows) {
        Picture.due(check, "\"" + words + "\": " + desk.told(), desk, what, rows);
    }

    void monster(Desk desk, int i, int what, int want) {
        due(desk, "monster(" + i + ", " + what + ")", desk.monster(i, what), want);
    }

    void monsterAt(Desk desk, int i, int x, int y) {
        monster(desk, i, 1, x);
        monster(desk, i, 2, y);
    }

    /** What 0 to 5 of a monster, in their order. */
    void monsterIs(Desk desk, int i, int... wants) {
        for (int what = 0; what < wants.length; what++) {
            monster(desk, i, what, wants[what]);
        }
    }

    void player(Desk desk, int what, int want) {
        due(desk, "player(" + what + ")", desk.player(what), want);
    }

    void playerAt(Desk desk, int x, int y) {
        player(desk, 0, x);
        player(desk, 1, y);
    }

    /** What 0 to 7 of the player, in their order. */
    void playerIs(Desk desk, int... wants) {
        for (int what = 0; what < wants.length; what++) {
            player(desk, what, wants[what]);
        }
    }

    void bag(Desk desk, int... kinds) {
        player(desk, 7, kinds.length);
        for (int k = 0; k < 4; k++) {
            player(desk, 10 + k, k < kinds.length ? kinds[k] : DungeonDesk.NONE);
        }
    }

    void recorded(Desk desk, int k, int want) {
        due(desk, "recorded(" + k + ")", desk.recorded(k), want);
    }

    void hash(Desk desk, long want) {
        due(desk, "hash()", desk.hash(), want);
    }

    void count(Desk desk, int what, int want) {
        due(desk, "count(" + what + ")", desk.count(what), want);
    }

    /** What 0 to 10 that is counted, in their order. */
    void countsAre(Desk desk, int... wants) {
        for (int what = 0; what < wants.length; what++) {
            count(desk, what, wants[what]);
        }
    }

    /** The calls change nothing that can be asked for. */
    void changesNothing(Desk desk, Runnable calls) {
        String before = Picture.whole(desk);
        calls.run();
        holds(desk.told() + ": nothing changed", before.equals(Picture.whole(desk)));
    }
}
