import java.math.BigInteger;

/** The document's sums in numbers without a bound, cut to 64 bits behind each step: what wrapping means. */
final class Sums {
    private static final BigInteger BOUND = BigInteger.ONE.shiftLeft(64);

    private Sums() {
    }

    /** What MAKING is first for a level. */
    static long making(int seed, int d) {
        return BigInteger.valueOf(seed).add(BigInteger.ONE).multiply(BigInteger.valueOf(1000003))
            .add(BigInteger.valueOf(d)).longValue();
    }

    /** The stream behind one draw more. */
    static long drawn(long stream) {
        return BigInteger.valueOf(stream).multiply(new BigInteger("6364136223846793005"))
            .add(new BigInteger("1442695040888963407")).longValue();
    }

    /** What a draw answers that left the stream so. */
    static int answer(long stream, int n) {
        BigInteger unsigned = BigInteger.valueOf(stream).mod(BOUND);
        return unsigned.divide(BigInteger.ONE.shiftLeft(33)).mod(BigInteger.valueOf(n)).intValue();
    }

    /** The hash over what the other calls tell, and the stream of play. */
    static long hash(Desk desk, long play) {
        BigInteger h = BigInteger.valueOf(17);
        for (int what : new int[] {6, 0, 1, 2, 3, 4, 5, 7}) {
            h = with(h, desk.player(what));
        }
        for (int k = 0; k < desk.player(7); k++) {
            h = with(h, desk.player(10 + k));
        }
        for (int i = 0; i < 5; i++) {
            for (int what = 0; what <= 5 && desk.monster(i, 0) != DungeonDesk.NONE; what++) {
                h = with(h, desk.monster(i, what));
            }
        }
        for (int y = 0; y < 10; y++) {
            for (int x = 0; x < 12; x++) {
                if (desk.cell(x, y, 4) != 0) {
                    h = with(with(h, 16 * y + x), desk.cell(x, y, 4) - 1);
                }
            }
        }
        return with(h, play).longValue();
    }

    private static BigInteger with(BigInteger h, long number) {
        return h.multiply(BigInteger.valueOf(1000003)).add(BigInteger.valueOf(number)).mod(BOUND);
    }
}
