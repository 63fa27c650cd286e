/** Games that several tests play. */
final class Games {
    /** With WINNER: goes down twice, uses things of all levels, and wins. */
    static final String WINS = "lgllaljlllkgllallllllgahhhhj>gkgbhjahh>llllljgallgakkhgahkkk>";
    static final int WINNER = 241;
    /** With LOSER: a rat goes, and an orc then brings the player from health 1 to -1. */
    static final String DIES = "llllklllkk";
    static final int LOSER = 1106;

    private Games() {
    }

    static Desk won() {
        return Desk.after(WINNER, WINS);
    }

    static Desk dead() {
        return Desk.after(LOSER, DIES);
    }
}
