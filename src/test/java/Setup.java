import java.util.BitSet;

/** What several tests need to bring an object into a state. */
final class Setup {
    static final int LOW = Integer.MIN_VALUE;
    static final int HIGH = Integer.MAX_VALUE;

    private Setup() {
    }

    static void onlyDegree(FountainRows rows, int degree) {
        for (int d = 1; d <= 12; d++) {
            rows.degree(d, d == degree ? 100 : 0);
        }
    }

    /** The least number from k on whose row, by their degree alone, is that of these parts. */
    static int numberOf(int k, int p, int seed, int... parts) {
        int[] table = new int[12];
        table[parts.length - 1] = 100;
        BitSet wanted = new BitSet();
        for (int part : parts) {
            wanted.set(part);
        }
        for (int x = k; x <= 65535; x++) {
            if (Model.rowSet(k, p, seed, table, x).equals(wanted)) {
                return x;
            }
        }
        throw new IllegalStateException("no number has the row of " + wanted);
    }

    static int pair(int k, int seed, int a, int b) {
        return numberOf(k, 0, seed, a, b);
    }

    static int send(FountainRows rows, int source, int x) {
        rows.frame(source, x);
        return rows.take();
    }

    /** Takes a frame of x whose bytes are others than the source has, with the SUM that these have. */
    static int give(FountainRows rows, int source, int x, long bytes) {
        int size = rows.frame(source, x) - 4;
        for (int i = 0; i < size; i++) {
            int wanted = (int) (bytes >> 8 * (size - 1 - i));
            rows.poke(2 + i, rows.frameByte(2 + i) ^ wanted);
        }
        rows.sign();
        return rows.take();
    }

    /** THE IMAGE gets the SUM that its bytes have now. */
    static void signImage(FountainRows rows, int length) {
        int[] bytes = new int[length - 2];
        for (int i = 0; i < bytes.length; i++) {
            bytes[i] = rows.imageByte(i);
        }
        int sum = Model.sumOf(bytes, 0, bytes.length);
        rows.setByte(length - 2, sum >> 8);
        rows.setByte(length - 1, sum & 255);
    }

    /** THE IMAGE, if it is long enough, becomes these bytes with their SUM behind them. */
    static void writeImage(FountainRows rows, int... bytes) {
        rows.cut(bytes.length + 2);
        for (int i = 0; i < bytes.length; i++) {
            rows.setByte(i, bytes[i]);
        }
        int sum = Model.sumOf(bytes, 0, bytes.length);
        rows.setByte(bytes.length, sum >> 8);
        rows.setByte(bytes.length + 1, sum & 255);
    }
}
