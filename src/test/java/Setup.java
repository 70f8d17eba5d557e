import java.util.BitSet;

/** What several tests need to bring an object into a state. */
final class Setup {
    private Setup() {
    }

    static void onlyDegree(FountainRows rows, int degree) {
        for (int d = 1; d <= 12; d++) {
            rows.degree(d, d == degree ? 100 : 0);
        }
    }

    /** The least number from k on whose row, by pairs alone, is that of the two parts. */
    static int pair(int k, int seed, int a, int b) {
        int[] table = {0, 100, 0, 0, 0, 0, 0, 0, 0, 0, 0, 0};
        BitSet wanted = new BitSet();
        wanted.set(a);
        wanted.set(b);
        for (int x = k; x <= 65535; x++) {
            if (Model.rowSet(k, 0, seed, table, x).equals(wanted)) {
                return x;
            }
        }
        return -1;
    }

    static int send(FountainRows rows, int source, int x) {
        rows.frame(source, x);
        return rows.take();
    }

    /** THE IMAGE gets the SUM that its bytes have now. */
    static void signImage(FountainRows rows, int length) {
        int[] bytes = new int[length - 2];
        for (int i = 0; i < bytes.length; i++) {
            bytes[i] = rows.imageByte(i);
        }
        int sum = Model.sumOf(bytes, 0, bytes.length);
        rows.setByte(length - 2, sum >> 8);
        rows.setByte(length - 1, sum & 255);
    }
}
